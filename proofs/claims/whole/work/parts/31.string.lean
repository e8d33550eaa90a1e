theorem sof_c {i : Nat} (h : i < 8) : (1100 + i, "java/lang/String", "coder", "B", Value.int 0) ∈ ev_of := List.mem_flatMap.mpr ⟨i, List.mem_range.mpr h, List.mem_cons_self⟩
theorem sof_v {i : Nat} (h : i < 8) : (1100 + i, "java/lang/String", "value", "[B", Value.ref (1110 + i)) ∈ ev_of := List.mem_flatMap.mpr ⟨i, List.mem_range.mpr h, List.mem_cons_of_mem _ List.mem_cons_self⟩
theorem sar_m {E : ev_E} {i : Nat} (h : i < 8) : (1110 + i, FieldType.byte, (ev_sb i).length, ev_li (ev_sb i)) ∈ ev_ar E := List.mem_append_right _ (List.mem_map.mpr ⟨i, List.mem_range.mpr h, rfl⟩)
theorem sob_m {i : Nat} (h : i < 8) : (1100 + i, "java/lang/String") ∈ ev_ob := List.mem_map.mpr ⟨i, List.mem_range.mpr h, rfl⟩
theorem s_rv {i n : Nat} {w : ev_W} (h : i < 8) : ev_rv (1100 + i) "java/lang/String" n w := Or.inr ⟨by omega, sob_m h⟩
theorem sb_ln : ∀ i, i < 8 → Int32.ofNat (ev_sb i).length >>> ((0 : Int32) &&& 31) = nI (ev_sb i).length ∧ (ev_sb i).length ≤ 6 ∧ Int32.ofNat (ev_sb i).length = nI (ev_sb i).length := by decide +kernel
theorem sb_ch : ∀ i, i < 8 → ∀ k, k < (ev_sb i).length → narrow .char (.int ((ev_sb i).getD k 0)) = .int ((ev_sb i).getD k 0) := by decide +kernel
set_option maxRecDepth 100000 in
set_option maxHeartbeats 4000000 in
theorem c_J0_coder_7d493 {E : ev_E} {n : Nat} {w : ev_W} {i : Nat} (hi : i < 8) : Ct E mJ0_coder_7d493 [.ref (1100 + i)] n w (ev_is (some (.int 0)) n w) := by
  refine Ct.of 0 (by decide) (Nat.le_of_ble_eq_true rfl) rfl ?_
  refine st_getstatic (q := 3) dJ0_coder_7d493_0 rfl (C := "java/lang/String") (nm := "COMPACT_STRINGS") (ds := "Z") (v := .int 1) (List.mem_of_getElem? (i := 10) rfl) fl_J0_38 rfl ?_
  refine st_if_eq (q := 6) (tgt := 13) dJ0_coder_7d493_3 rfl rfl (fun c_3 => False.elim (absurd c_3 (by decide))) (fun c_3 => ?_)
  refine st_aload_n (q := 7) dJ0_coder_7d493_6 rfl rfl rfl ?_
  refine st_getX (q := 10) dJ0_coder_7d493_7 rfl (sof_c hi) (by omega) fl_J0_15 rfl ?_
  refine st_goto (q := 14) dJ0_coder_7d493_10 rfl ?_
  refine st_nreturn dJ0_coder_7d493_14 rfl (by rfl) ?_
  exact ⟨rfl, rfl, rfl⟩
set_option maxRecDepth 100000 in
set_option maxHeartbeats 4000000 in
theorem c_J0_isLatin1_aae02 {E : ev_E} {n : Nat} {w : ev_W} {i : Nat} (hi : i < 8) : Ct E mJ0_isLatin1_aae02 [.ref (1100 + i)] n w (ev_is (some (.int 1)) n w) := by
  refine Ct.of 0 (by decide) (Nat.le_of_ble_eq_true rfl) rfl ?_
  refine st_getstatic (q := 3) dJ0_isLatin1_aae02_0 rfl (C := "java/lang/String") (nm := "COMPACT_STRINGS") (ds := "Z") (v := .int 1) (List.mem_of_getElem? (i := 10) rfl) fl_J0_38 rfl ?_
  refine st_if_eq (q := 6) (tgt := 17) dJ0_isLatin1_aae02_3 rfl rfl (fun c_3 => False.elim (absurd c_3 (by decide))) (fun c_3 => ?_)
  refine st_aload_n (q := 7) dJ0_isLatin1_aae02_6 rfl rfl rfl ?_
  refine st_getX (q := 10) dJ0_isLatin1_aae02_7 rfl (sof_c hi) (by omega) fl_J0_15 rfl ?_
  refine st_if_ne (q := 13) (tgt := 17) dJ0_isLatin1_aae02_10 rfl rfl (fun c_10 => False.elim (c_10 rfl)) (fun c_10 => ?_)
  refine st_iconst (q := 14) dJ0_isLatin1_aae02_13 rfl ic_1 ?_
  refine st_goto (q := 18) dJ0_isLatin1_aae02_14 rfl ?_
  refine st_nreturn dJ0_isLatin1_aae02_18 rfl (by rfl) ?_
  exact ⟨rfl, rfl, rfl⟩
set_option maxRecDepth 100000 in
set_option maxHeartbeats 4000000 in
theorem c_J0_length_8abf5 {E : ev_E} {n : Nat} {w : ev_W} {i : Nat} (hi : i < 8) : Ct E mJ0_length_8abf5 [.ref (1100 + i)] n w (ev_is (some (.int (nI (ev_sb i).length))) n w) := by
  refine Ct.of 0 (by decide) (Nat.le_of_ble_eq_true rfl) rfl ?_
  refine st_aload_n (q := 1) dJ0_length_8abf5_0 rfl rfl rfl ?_
  refine st_getX (q := 4) dJ0_length_8abf5_1 rfl (sof_v hi) (by omega) fl_J0_9 (Nat.ble_eq_true_of_le (by omega)) ?_
  refine st_alenX (q := 5) dJ0_length_8abf5_4 rfl (sar_m hi) (by omega) rfl ?_
  refine st_aload_n (q := 6) dJ0_length_8abf5_5 rfl rfl rfl ?_
  refine sp_V0 (q := 9) (M' := mJ0_coder_7d493) dJ0_length_8abf5_6 rfl ok_J0_coder_7d493 mk_J0_coder_7d493 ml_J0_335 ⟨Nat.le_of_ble_eq_true rfl, Nat.le_of_ble_eq_true rfl⟩ rfl (Nat.le_of_ble_eq_true rfl) (s_rv hi) ⟨rfl, rfl⟩ (c_J0_coder_7d493 hi) ?_
  refine st_ishr (q := 10) dJ0_length_8abf5_9 rfl ?_
  refine st_ireturn dJ0_length_8abf5_10 rfl ?_
  exact ⟨by rw [(sb_ln i hi).1], rfl, rfl⟩
theorem nI_nneg {a : Nat} (h : a < 2 ^ 31) : ¬ nI a < 0 := fun z => by
  have := Int32.lt_iff_toInt_lt.mp z
  rw [nI_toInt h] at this
  simp at this
  omega
set_option maxRecDepth 100000 in
set_option maxHeartbeats 4000000 in
theorem c_J3_checkIndex_8e157 {E : ev_E} {n : Nat} {w : ev_W} {k len : Nat} (hk : k < len) (hl : len < 2 ^ 31) {r : Nat} : Ct E mJ3_checkIndex_8e157 [.int (nI k), .int (nI len), .ref r] n w (ev_is (some (.int (nI k))) n w) := by
  refine Ct.of 0 (by decide) (Nat.le_of_ble_eq_true rfl) rfl ?_
  refine st_iload_n (q := 1) dJ3_checkIndex_8e157_0 rfl rfl rfl ?_
  refine st_if_lt (q := 4) (tgt := 9) dJ3_checkIndex_8e157_1 rfl rfl (fun c_1 => False.elim (absurd c_1 (nI_nneg (by omega)))) (fun c_1 => ?_)
  refine st_iload_n (q := 5) dJ3_checkIndex_8e157_4 rfl rfl rfl ?_
  refine st_iload_n (q := 6) dJ3_checkIndex_8e157_5 rfl rfl rfl ?_
  refine st_icmp_lt (q := 9) (tgt := 16) dJ3_checkIndex_8e157_6 rfl rfl (fun c_6 => ?_) (fun c_6 => False.elim (c_6 (nI_lt hk hl)))
  refine st_iload_n (q := 17) dJ3_checkIndex_8e157_16 rfl rfl rfl ?_
  refine st_ireturn dJ3_checkIndex_8e157_17 rfl ?_
  exact ⟨rfl, rfl, rfl⟩
set_option maxRecDepth 100000 in
set_option maxHeartbeats 4000000 in
theorem c_J3_checkIndex_8e157n {E : ev_E} {n : Nat} {w : ev_W} {k len : Nat} (hk : k < len) (hl : len < 2 ^ 31) : Ct E mJ3_checkIndex_8e157 [.int (nI k), .int (nI len), .null] n w (ev_is (some (.int (nI k))) n w) := by
  refine Ct.of 0 (by decide) (Nat.le_of_ble_eq_true rfl) rfl ?_
  refine st_iload_n (q := 1) dJ3_checkIndex_8e157_0 rfl rfl rfl ?_
  refine st_if_lt (q := 4) (tgt := 9) dJ3_checkIndex_8e157_1 rfl rfl (fun c_1 => False.elim (absurd c_1 (nI_nneg (by omega)))) (fun c_1 => ?_)
  refine st_iload_n (q := 5) dJ3_checkIndex_8e157_4 rfl rfl rfl ?_
  refine st_iload_n (q := 6) dJ3_checkIndex_8e157_5 rfl rfl rfl ?_
  refine st_icmp_lt (q := 9) (tgt := 16) dJ3_checkIndex_8e157_6 rfl rfl (fun c_6 => ?_) (fun c_6 => False.elim (c_6 (nI_lt hk hl)))
  refine st_iload_n (q := 17) dJ3_checkIndex_8e157_16 rfl rfl rfl ?_
  refine st_ireturn dJ3_checkIndex_8e157_17 rfl ?_
  exact ⟨rfl, rfl, rfl⟩
set_option maxRecDepth 100000 in
set_option maxHeartbeats 4000000 in
theorem c_J0_checkIndex_df160 {E : ev_E} {n : Nat} {w : ev_W} {k len : Nat} (hk : k < len) (hl : len < 2 ^ 31) : Ct E mJ0_checkIndex_df160 [.int (nI k), .int (nI len)] n w (ev_is none n w) := by
  refine Ct.of 0 (by decide) (Nat.le_of_ble_eq_true rfl) rfl ?_
  refine st_iload_n (q := 1) dJ0_checkIndex_df160_0 rfl rfl rfl ?_
  refine st_iload_n (q := 2) dJ0_checkIndex_df160_1 rfl rfl rfl ?_
  refine st_getstatic (q := 5) dJ0_checkIndex_df160_2 rfl (C := "jdk/internal/util/Preconditions") (nm := "SIOOBE_FORMATTER") (ds := "Ljava/util/function/BiFunction;") (v := ev_fm E) (List.mem_of_getElem? (i := 11) rfl) fl_J0_1053 (by rcases ev_fm_or E with h | h <;> rw [h] <;> rfl) ?_
  rcases ev_fm_or E with h | h
  · rw [h]
    refine sp_S3 (q := 8) (M' := mJ3_checkIndex_8e157) dJ0_checkIndex_df160_5 rfl ok_J3_checkIndex_8e157 mk_J3_checkIndex_8e157 ml_J0_1059 ⟨Nat.le_of_ble_eq_true rfl, Nat.le_of_ble_eq_true rfl⟩ rfl (Nat.le_of_ble_eq_true rfl) ⟨rfl, rfl⟩ (c_J3_checkIndex_8e157n hk hl) ?_
    refine st_pop (q := 9) dJ0_checkIndex_df160_8 rfl rfl ?_
    refine st_return dJ0_checkIndex_df160_9 rfl ?_
    exact ⟨rfl, rfl, rfl⟩
  · rw [h]
    refine sp_S3 (q := 8) (M' := mJ3_checkIndex_8e157) dJ0_checkIndex_df160_5 rfl ok_J3_checkIndex_8e157 mk_J3_checkIndex_8e157 ml_J0_1059 ⟨Nat.le_of_ble_eq_true rfl, Nat.le_of_ble_eq_true rfl⟩ rfl (Nat.le_of_ble_eq_true rfl) ⟨rfl, rfl⟩ (c_J3_checkIndex_8e157 hk hl) ?_
    refine st_pop (q := 9) dJ0_checkIndex_df160_8 rfl rfl ?_
    refine st_return dJ0_checkIndex_df160_9 rfl ?_
    exact ⟨rfl, rfl, rfl⟩
theorem sb_and : ∀ i, i < 8 → ∀ k, k < (ev_sb i).length → ((((ev_sb i).getD k 0 &&& 255).toUInt32 % 65536).toInt32) = (ev_sb i).getD k 0 := by decide +kernel
set_option maxRecDepth 100000 in
set_option maxHeartbeats 4000000 in
theorem c_J1_charAt_3b067 {E : ev_E} {n : Nat} {w : ev_W} {i : Nat} (hi : i < 8) {k : Nat} (hk : k < (ev_sb i).length) : Ct E mJ1_charAt_3b067 [.ref (1110 + i), .int (nI k)] n w (ev_is (some (.int ((ev_sb i).getD k 0))) n w) := by
  refine Ct.of 0 (by decide) (Nat.le_of_ble_eq_true rfl) rfl ?_
  have hl := (sb_ln i hi).2.1
  refine st_iload_n (q := 1) dJ1_charAt_3b067_0 rfl rfl rfl ?_
  refine st_aload_n (q := 2) dJ1_charAt_3b067_1 rfl rfl rfl ?_
  refine st_alenX (q := 3) dJ1_charAt_3b067_2 rfl (sar_m hi) (by omega) rfl ?_
  rw [(sb_ln i hi).2.2]
  refine sm_S2 (q := 6) (M' := mJ0_checkIndex_df160) dJ1_charAt_3b067_3 rfl ok_J0_checkIndex_df160 mk_J0_checkIndex_df160 ml_J1_9 ⟨Nat.le_of_ble_eq_true rfl, Nat.le_of_ble_eq_true rfl⟩ rfl (Nat.le_of_ble_eq_true rfl) ⟨rfl, rfl⟩ (c_J0_checkIndex_df160 hk (by omega)) ?_
  intro _ n w h9 _
  obtain ⟨rfl, rfl, rfl⟩ := h9
  refine st_aload_n (q := 7) dJ1_charAt_3b067_6 rfl rfl rfl ?_
  refine st_iload_n (q := 8) dJ1_charAt_3b067_7 rfl rfl rfl ?_
  refine st_baloadX (q := 9) dJ1_charAt_3b067_8 rfl (sar_m hi) (by omega) (ev_ix_nI hk (by omega)) rfl ?_
  refine st_sipush (q := 12) dJ1_charAt_3b067_9 rfl sp_255 ?_
  refine st_iand (q := 13) dJ1_charAt_3b067_12 rfl ?_
  refine st_i2c (q := 14) dJ1_charAt_3b067_13 rfl ?_
  rw [sb_and i hi k hk]
  refine st_nreturn dJ1_charAt_3b067_14 rfl (by exact sb_ch i hi k hk) ?_
  exact ⟨rfl, rfl, rfl⟩
set_option maxRecDepth 100000 in
set_option maxHeartbeats 4000000 in
theorem c_J0_charAt_5068e {E : ev_E} {n : Nat} {w : ev_W} {i : Nat} (hi : i < 8) {k : Nat} (hk : k < (ev_sb i).length) : Ct E mJ0_charAt_5068e [.ref (1100 + i), .int (nI k)] n w (ev_is (some (.int ((ev_sb i).getD k 0))) n w) := by
  refine Ct.of 0 (by decide) (Nat.le_of_ble_eq_true rfl) rfl ?_
  refine st_aload_n (q := 1) dJ0_charAt_5068e_0 rfl rfl rfl ?_
  refine sp_V0 (q := 4) (M' := mJ0_isLatin1_aae02) dJ0_charAt_5068e_1 rfl ok_J0_isLatin1_aae02 mk_J0_isLatin1_aae02 ml_J0_492 ⟨Nat.le_of_ble_eq_true rfl, Nat.le_of_ble_eq_true rfl⟩ rfl (Nat.le_of_ble_eq_true rfl) (s_rv hi) ⟨rfl, rfl⟩ (c_J0_isLatin1_aae02 hi) ?_
  refine st_if_eq (q := 7) (tgt := 16) dJ0_charAt_5068e_4 rfl rfl (fun c_4 => False.elim (absurd c_4 (by decide))) (fun c_4 => ?_)
  refine st_aload_n (q := 8) dJ0_charAt_5068e_7 rfl rfl rfl ?_
  refine st_getX (q := 11) dJ0_charAt_5068e_8 rfl (sof_v hi) (by omega) fl_J0_9 (Nat.ble_eq_true_of_le (by omega)) ?_
  refine st_iload_n (q := 12) dJ0_charAt_5068e_11 rfl rfl rfl ?_
  refine sp_S2 (q := 15) (M' := mJ1_charAt_3b067) dJ0_charAt_5068e_12 rfl ok_J1_charAt_3b067 mk_J1_charAt_3b067 ml_J0_495 ⟨Nat.le_of_ble_eq_true rfl, Nat.le_of_ble_eq_true rfl⟩ rfl (Nat.le_of_ble_eq_true rfl) ⟨rfl, rfl⟩ (c_J1_charAt_3b067 hi hk) ?_
  refine st_nreturn dJ0_charAt_5068e_15 rfl (by exact sb_ch i hi k hk) ?_
  exact ⟨rfl, rfl, rfl⟩
