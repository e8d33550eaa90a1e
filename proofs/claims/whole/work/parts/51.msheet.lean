def mkeS (S : gT) (x : Int32) : gT := if inI x 0 1 = true then tup S 24 x.toNatClampNeg 1 else S
def mkeF (f : Nat → Int32) (x : Int32) : Nat → Int32 := if inI x 0 1 = true then cpyM f 0 (71 * (x.toNatClampNeg + 1)) 71 else f
def mkeA (S : gT) (x : Int32) : Int32 := if inI x 0 1 = true then (if S 24 x.toNatClampNeg = 0 then 0 else 1) else -1
def mbaF (S : gT) (f : Nat → Int32) (x : Int32) : Nat → Int32 := if inI x 0 1 = true then (if S 24 x.toNatClampNeg = 0 then f else cpyM f (71 * (x.toNatClampNeg + 1)) 0 71) else f
def mbaA (S : gT) (f : Nat → Int32) (x : Int32) : Int32 := if inI x 0 1 = true then (if S 24 x.toNatClampNeg = 0 then -2 else cpyM f (71 * (x.toNatClampNeg + 1)) 0 71 69) else -1
theorem n71 (j : Nat) : (71 : Int32) * (nI j + 1) = nI (71 * (j + 1)) := by rw [← nI_succ, show (71 : Int32) = nI 71 from rfl, pk_mul]
set_option maxRecDepth 100000 in
set_option maxHeartbeats 4000000 in
theorem c_X7_keep {E : ev_E} {n : Nat} {w : ev_W} {S : gT} {f : Nat → Int32} {w0 : ev_W} (hF : Fr 70 82 w0 w) (hM : MR S f 70 n w) {x : Int32} : Ct E mX7_keep [.ref 70, .int x] n w (ev_mr (mkeA S x) n w0 (MR (mkeS S x) (mkeF f x) 70 n)) := by
  refine Ct.of 1 (by decide) (Nat.le_of_ble_eq_true rfl) rfl ?_
  refine st_iload_n (q := 1) dX7_keep_0 rfl rfl rfl ?_
  refine st_i2l (q := 2) dX7_keep_1 rfl ?_
  refine st_lconst (q := 3) dX7_keep_2 rfl lc_0 ?_
  refine st_lconst (q := 4) dX7_keep_3 rfl lc_1 ?_
  refine sp_S3 (q := 7) (M' := mX7_in) dX7_keep_4 rfl ok_X7_in mk_X7_in ml_X7_46 ⟨Nat.le_of_ble_eq_true rfl, Nat.le_of_ble_eq_true rfl⟩ rfl (Nat.le_of_ble_eq_true rfl) ⟨rfl, rfl⟩ (c_X7_inI (a := 0) (c := 1) (by decide) (by decide)) ?_
  refine st_if_ne (q := 10) (tgt := 12) dX7_keep_7 rfl rfl (fun c_7 => ?_) (fun c_7 => ?_)
  · obtain ⟨j, hj, rfl⟩ := inI_k (k := 1) (zI_1.mp c_7) (by decide)
    have h1 : inI (nI j) 0 1 = true := zI_1.mp c_7
    have hjc : (nI j).toNatClampNeg = j := nI_clamp (by omega)
    refine st_aload_n (q := 13) dX7_keep_12 rfl rfl rfl ?_
    refine st_iconst (q := 14) dX7_keep_13 rfl ic_0 ?_
    refine st_bipush (q := 16) dX7_keep_14 rfl bp_71 ?_
    refine st_iload_n (q := 17) dX7_keep_16 rfl rfl rfl ?_
    refine st_iconst (q := 18) dX7_keep_17 rfl ic_1 ?_
    refine st_iadd (q := 19) dX7_keep_18 rfl ?_
    refine st_imul (q := 20) dX7_keep_19 rfl ?_
    rw [n71]
    refine sm_V2 (q := 23) (M' := mX7_copies) dX7_keep_20 rfl ok_X7_copies mk_X7_copies ml_X7_200 ⟨Nat.le_of_ble_eq_true rfl, Nat.le_of_ble_eq_true rfl⟩ rfl (Nat.le_of_ble_eq_true rfl) (g_rv hM rfl) ⟨rfl, rfl⟩ (c_X7_copies hM (p := 0) (c := 71 * (j + 1)) (by decide) (by omega)) ?_
    intro _ n w h9 _
    obtain ⟨rfl, rfl, hM, hF_⟩ := h9
    replace hF := Fr.tr hF hF_
    refine st_aload_n (q := 24) dX7_keep_23 rfl rfl rfl ?_
    refine g_getA (q := 27) dX7_keep_24 rfl fl_X7_31.g hM rfl ?_
    refine st_iload_n (q := 28) dX7_keep_27 rfl rfl rfl ?_
    refine m_zld (q := 29) dX7_keep_28 rfl hM (i := 24) (by decide) rfl (by exact ev_ix_nI (j := j) (by omega) (by decide)) ?_
    refine st_if_eq (q := 32) (tgt := 36) dX7_keep_29 rfl rfl (fun c_29 => ?_) (fun c_29 => ?_)
    · refine st_iconst (q := 37) dX7_keep_36 rfl ic_0 ?_
      refine st_istore_n (q := 38) (L' := [_, _, _]) dX7_keep_37 rfl rfl (Nat.le_of_ble_eq_true rfl) rfl ?_
      refine st_aload_n (q := 39) dX7_keep_38 rfl rfl rfl ?_
      refine g_getA (q := 42) dX7_keep_39 rfl fl_X7_31.g hM rfl ?_
      refine st_iload_n (q := 43) dX7_keep_42 rfl rfl rfl ?_
      refine st_iconst (q := 44) dX7_keep_43 rfl ic_1 ?_
      refine m_zst (q := 45) dX7_keep_44 rfl hM (i := 24) (by decide) rfl (by exact ev_ix_nI (j := j) (by omega) (by decide)) (fun w hM hF_ => ?_)
      replace hF := Fr.tr hF hF_
      refine st_iload_n (q := 46) dX7_keep_45 rfl rfl rfl ?_
      refine st_ireturn dX7_keep_46 rfl ?_
      rw [show vp_nar .boolean (1 : Int32) = 1 from by decide] at hM
      first
        | exact ⟨by rw [mkeA, if_pos h1, hjc, if_pos c_29], rfl, by rw [mkeS, mkeF, if_pos h1, if_pos h1, hjc]; exact hM, hF⟩
        | exact ⟨by rw [mkeA, if_pos h1, hjc, if_neg c_29], rfl, by rw [mkeS, mkeF, if_pos h1, if_pos h1, hjc]; exact hM, hF⟩
    · refine st_iconst (q := 33) dX7_keep_32 rfl ic_1 ?_
      refine st_goto (q := 37) dX7_keep_33 rfl ?_
      refine st_istore_n (q := 38) (L' := [_, _, _]) dX7_keep_37 rfl rfl (Nat.le_of_ble_eq_true rfl) rfl ?_
      refine st_aload_n (q := 39) dX7_keep_38 rfl rfl rfl ?_
      refine g_getA (q := 42) dX7_keep_39 rfl fl_X7_31.g hM rfl ?_
      refine st_iload_n (q := 43) dX7_keep_42 rfl rfl rfl ?_
      refine st_iconst (q := 44) dX7_keep_43 rfl ic_1 ?_
      refine m_zst (q := 45) dX7_keep_44 rfl hM (i := 24) (by decide) rfl (by exact ev_ix_nI (j := j) (by omega) (by decide)) (fun w hM hF_ => ?_)
      replace hF := Fr.tr hF hF_
      refine st_iload_n (q := 46) dX7_keep_45 rfl rfl rfl ?_
      refine st_ireturn dX7_keep_46 rfl ?_
      rw [show vp_nar .boolean (1 : Int32) = 1 from by decide] at hM
      first
        | exact ⟨by rw [mkeA, if_pos h1, hjc, if_pos c_29], rfl, by rw [mkeS, mkeF, if_pos h1, if_pos h1, hjc]; exact hM, hF⟩
        | exact ⟨by rw [mkeA, if_pos h1, hjc, if_neg c_29], rfl, by rw [mkeS, mkeF, if_pos h1, if_pos h1, hjc]; exact hM, hF⟩
  · refine st_iconst (q := 11) dX7_keep_10 rfl ic_m1 ?_
    refine st_ireturn dX7_keep_11 rfl ?_
    exact ⟨by rw [mkeA, if_neg (by rw [zI_0.mp c_7]; decide)], rfl, by rw [mkeS, mkeF, if_neg (by rw [zI_0.mp c_7]; decide), if_neg (by rw [zI_0.mp c_7]; decide)]; exact hM, hF⟩
set_option maxRecDepth 100000 in
set_option maxHeartbeats 4000000 in
theorem c_X7_back {E : ev_E} {n : Nat} {w : ev_W} {S : gT} {f : Nat → Int32} {w0 : ev_W} (hF : Fr 70 82 w0 w) (hM : MR S f 70 n w) {x : Int32} : Ct E mX7_back [.ref 70, .int x] n w (ev_mr (mbaA S f x) n w0 (MR S (mbaF S f x) 70 n)) := by
  refine Ct.of 0 (by decide) (Nat.le_of_ble_eq_true rfl) rfl ?_
  refine st_iload_n (q := 1) dX7_back_0 rfl rfl rfl ?_
  refine st_i2l (q := 2) dX7_back_1 rfl ?_
  refine st_lconst (q := 3) dX7_back_2 rfl lc_0 ?_
  refine st_lconst (q := 4) dX7_back_3 rfl lc_1 ?_
  refine sp_S3 (q := 7) (M' := mX7_in) dX7_back_4 rfl ok_X7_in mk_X7_in ml_X7_46 ⟨Nat.le_of_ble_eq_true rfl, Nat.le_of_ble_eq_true rfl⟩ rfl (Nat.le_of_ble_eq_true rfl) ⟨rfl, rfl⟩ (c_X7_inI (a := 0) (c := 1) (by decide) (by decide)) ?_
  refine st_if_ne (q := 10) (tgt := 12) dX7_back_7 rfl rfl (fun c_7 => ?_) (fun c_7 => ?_)
  · obtain ⟨j, hj, rfl⟩ := inI_k (k := 1) (zI_1.mp c_7) (by decide)
    have h1 : inI (nI j) 0 1 = true := zI_1.mp c_7
    have hjc : (nI j).toNatClampNeg = j := nI_clamp (by omega)
    refine st_aload_n (q := 13) dX7_back_12 rfl rfl rfl ?_
    refine g_getA (q := 16) dX7_back_13 rfl fl_X7_31.g hM rfl ?_
    refine st_iload_n (q := 17) dX7_back_16 rfl rfl rfl ?_
    refine m_zld (q := 18) dX7_back_17 rfl hM (i := 24) (by decide) rfl (by exact ev_ix_nI (j := j) (by omega) (by decide)) ?_
    refine st_if_ne (q := 21) (tgt := 24) dX7_back_18 rfl rfl (fun c_18 => ?_) (fun c_18 => ?_)
    · refine st_aload_n (q := 25) dX7_back_24 rfl rfl rfl ?_
      refine st_bipush (q := 27) dX7_back_25 rfl bp_71 ?_
      refine st_iload_n (q := 28) dX7_back_27 rfl rfl rfl ?_
      refine st_iconst (q := 29) dX7_back_28 rfl ic_1 ?_
      refine st_iadd (q := 30) dX7_back_29 rfl ?_
      refine st_imul (q := 31) dX7_back_30 rfl ?_
      refine st_iconst (q := 32) dX7_back_31 rfl ic_0 ?_
      rw [n71]
      refine sm_V2 (q := 35) (M' := mX7_copies) dX7_back_32 rfl ok_X7_copies mk_X7_copies ml_X7_200 ⟨Nat.le_of_ble_eq_true rfl, Nat.le_of_ble_eq_true rfl⟩ rfl (Nat.le_of_ble_eq_true rfl) (g_rv hM rfl) ⟨rfl, rfl⟩ (c_X7_copies hM (p := 71 * (j + 1)) (c := 0) (by omega) (by decide)) ?_
      intro _ n w h9 _
      obtain ⟨rfl, rfl, hM, hF_⟩ := h9
      replace hF := Fr.tr hF hF_
      refine st_aload_n (q := 36) dX7_back_35 rfl rfl rfl ?_
      refine g_getA (q := 39) dX7_back_36 rfl fl_X7_7.g hM rfl ?_
      refine st_bipush (q := 41) dX7_back_39 rfl bp_69 ?_
      refine m_sld (q := 42) dX7_back_41 rfl hM (by exact ev_ix_nI (j := 69) (by decide) (by decide)) ?_
      refine st_ireturn dX7_back_42 rfl ?_
      exact ⟨by rw [mbaA, if_pos h1, hjc, if_neg c_18], rfl, by rw [mbaF, if_pos h1, hjc, if_neg c_18]; exact hM, hF⟩
    · refine st_bipush (q := 23) dX7_back_21 rfl bp_m2 ?_
      refine st_ireturn dX7_back_23 rfl ?_
      exact ⟨by rw [mbaA, if_pos h1, hjc, if_pos c_18], rfl, by rw [mbaF, if_pos h1, hjc, if_pos c_18]; exact hM, hF⟩
  · refine st_iconst (q := 11) dX7_back_10 rfl ic_m1 ?_
    refine st_ireturn dX7_back_11 rfl ?_
    exact ⟨by rw [mbaA, if_neg (by rw [zI_0.mp c_7]; decide)], rfl, by rw [mbaF, if_neg (by rw [zI_0.mp c_7]; decide)]; exact hM, hF⟩
def SH1 (H S : gT) (k : Nat) : Prop := ∃ s, s ≤ 40 ∧ H 3 0 = nI s ∧ ((H 1 0 = 0 ∧ S 25 k = -4) ∨ (H 1 0 = 1 ∧ (∃ l, l < 3 ∧ S 25 k = nI l) ∧ H 2 0 = S 25 k ∧ S 26 k = nI s ∧ ∀ i, i < 40 → S 27 (40 * k + i) = H 0 i))
def SH (Sh : Nat → gT) (S : gT) : Prop := ∀ k, k < 4 → SH1 (Sh k) S k
theorem SH1.c {H S S' : gT} {k : Nat} (h : SH1 H S k) (h5 : S' 25 k = S 25 k) (h6 : S' 26 k = S 26 k) (h7 : ∀ i, i < 40 → S' 27 (40 * k + i) = S 27 (40 * k + i)) : SH1 H S' k := by
  obtain ⟨s, hs, e, h⟩ := h
  refine ⟨s, hs, e, ?_⟩
  rw [h5, h6]
  rcases h with h | ⟨a, b, c, d, g⟩
  · exact Or.inl h
  · exact Or.inr ⟨a, b, c, d, fun i hi => by rw [h7 i hi]; exact g i hi⟩
theorem SH.hk {Sh : Nat → gT} {S : gT} (h : SH Sh S) : HK Sh := fun k hk => by obtain ⟨s, hs, e, _⟩ := h k hk; exact ⟨s, hs, e⟩
theorem SH.c {Sh : Nat → gT} {S S' : gT} (h : SH Sh S) (h5 : S' 25 = S 25) (h6 : S' 26 = S 26) (h7 : S' 27 = S 27) : SH Sh S' := fun k hk => (h k hk).c (by rw [h5]) (by rw [h6]) (fun i _ => by rw [h7])
def zcM (S : gT) (k : Nat) : Nat → gT
  | 0 => S
  | i + 1 => tup (zcM S k i) 27 (40 * k + i) 0
theorem zcM_n {S : gT} {k g : Nat} (h : g ≠ 27) : ∀ i, zcM S k i g = S g
  | 0 => rfl
  | i + 1 => by rw [zcM, tup_n h, zcM_n h i]
theorem zcM_at {S : gT} {k j : Nat} : ∀ i, zcM S k i 27 j = if 40 * k ≤ j ∧ j < 40 * k + i then 0 else S 27 j
  | 0 => by rw [zcM, if_neg (by omega)]
  | i + 1 => by
    rw [zcM, tup_s]
    by_cases e : j = 40 * k + i
    · rw [e, pk_us, if_pos (by omega)]
    · rw [pk_un e, zcM_at i]
      by_cases z : 40 * k ≤ j ∧ j < 40 * k + i
      · rw [if_pos z, if_pos (by omega)]
      · rw [if_neg z, if_neg (by omega)]
def SR9 (S : gT) (f : Nat → Int32) (H : Nat → gT) (n : Nat) (u : ev_W) : Prop := ∃ S', MR S' f 70 n u ∧ SH H S' ∧ ∀ g, g ≠ 25 → g ≠ 26 → g ≠ 27 → S' g = S g
theorem SH.renew {Sh : Nat → gT} {S : gT} (h : SH Sh S) {k s : Nat} (hk : k < 4) (hs : s ≤ 40) {y : Int32} (hy : ∃ l, l < 3 ∧ y = nI l) : SH (fun q => if q = k then rnT (Sh k) y (nI s) else Sh q) (zcM (tup (tup S 25 k y) 26 k (nI s)) k 40) := by
  intro q hq
  by_cases e : q = k
  · subst e
    show SH1 (if q = q then _ else _) _ _
    rw [if_pos rfl]
    refine ⟨s, hs, rfl, Or.inr ⟨rfl, ?_, ?_, ?_, fun i hi => ?_⟩⟩
    · rw [zcM_n (by decide), tup_n (by decide), tup_s, pk_us]; exact hy
    · rw [zcM_n (by decide), tup_n (by decide), tup_s, pk_us]; rfl
    · rw [zcM_n (by decide), tup_s, pk_us]
    · rw [zcM_at, if_pos (by omega)]; rfl
  · show SH1 (if q = k then _ else _) _ _
    rw [if_neg e]
    refine (h q hq).c ?_ ?_ (fun i hi => ?_)
    · rw [zcM_n (by decide), tup_n (by decide), tup_s, pk_un e]
    · rw [zcM_n (by decide), tup_s, pk_un e, tup_n (by decide)]
    · rw [zcM_at, if_neg (by omega), tup_n (by decide), tup_n (by decide)]
set_option maxRecDepth 100000 in
set_option maxHeartbeats 4000000 in
theorem c_X7_sheet {E : ev_E} {n : Nat} {w : ev_W} {S : gT} {f : Nat → Int32} {w0 : ev_W} (hF : Fr 70 82 w0 w) (hM : MR S f 70 n w) {Sh : Nat → gT} (hS : SH Sh S) {x y z : Int32} : Ct E mX7_sheet [.ref 70, .int x, .int y, .int z] n w (ev_mr (sheetS x y z) n w0 (SR9 S f (sheetH Sh x y z) n)) := by
  refine Ct.of 1 (by decide) (Nat.le_of_ble_eq_true rfl) rfl ?_
  refine st_iload_n (q := 1) dX7_sheet_0 rfl rfl rfl ?_
  refine st_i2l (q := 2) dX7_sheet_1 rfl ?_
  refine st_lconst (q := 3) dX7_sheet_2 rfl lc_0 ?_
  refine st_ldc2 (q := 6) dX7_sheet_3 rfl cn_X7_179 ?_
  refine sp_S3 (q := 9) (M' := mX7_in) dX7_sheet_6 rfl ok_X7_in mk_X7_in ml_X7_46 ⟨Nat.le_of_ble_eq_true rfl, Nat.le_of_ble_eq_true rfl⟩ rfl (Nat.le_of_ble_eq_true rfl) ⟨rfl, rfl⟩ (c_X7_inI (a := 0) (c := 3) (by decide) (by decide)) ?_
  refine st_if_eq (q := 12) (tgt := 30) dX7_sheet_9 rfl rfl (fun c_9 => ?_) (fun c_9 => ?_)
  · refine st_iconst (q := 31) dX7_sheet_30 rfl ic_m1 ?_
    refine st_ireturn dX7_sheet_31 rfl ?_
    first
      | exact ⟨by rw [sheetS, if_neg (by rw [zI_0.mp c_9]; decide)], rfl, ⟨S, hM, by rw [sheetH, if_neg (by rw [zI_0.mp c_9]; decide)]; exact hS, fun _ _ _ _ => rfl⟩, hF⟩
      | exact ⟨by rw [sheetS, if_pos (zI_1.mp c_9), if_neg (by rw [zI_0.mp c_21]; decide)], rfl, ⟨S, hM, by rw [sheetH, if_pos (zI_1.mp c_9), if_neg (by rw [zI_0.mp c_21]; decide)]; exact hS, fun _ _ _ _ => rfl⟩, hF⟩
      | exact ⟨by rw [sheetS, if_pos (zI_1.mp c_9), if_pos (zI_1.mp c_21), if_neg c_27], rfl, ⟨S, hM, by rw [sheetH, if_pos (zI_1.mp c_9), if_pos (zI_1.mp c_21), if_neg c_27]; exact hS, fun _ _ _ _ => rfl⟩, hF⟩
  · refine st_iload_n (q := 13) dX7_sheet_12 rfl rfl rfl ?_
    refine st_i2l (q := 14) dX7_sheet_13 rfl ?_
    refine st_lconst (q := 15) dX7_sheet_14 rfl lc_0 ?_
    refine st_ldc2 (q := 18) dX7_sheet_15 rfl cn_X7_211 ?_
    refine sp_S3 (q := 21) (M' := mX7_in) dX7_sheet_18 rfl ok_X7_in mk_X7_in ml_X7_46 ⟨Nat.le_of_ble_eq_true rfl, Nat.le_of_ble_eq_true rfl⟩ rfl (Nat.le_of_ble_eq_true rfl) ⟨rfl, rfl⟩ (c_X7_inI (a := 0) (c := 2) (by decide) (by decide)) ?_
    refine st_if_eq (q := 24) (tgt := 30) dX7_sheet_21 rfl rfl (fun c_21 => ?_) (fun c_21 => ?_)
    · refine st_iconst (q := 31) dX7_sheet_30 rfl ic_m1 ?_
      refine st_ireturn dX7_sheet_31 rfl ?_
      first
        | exact ⟨by rw [sheetS, if_neg (by rw [zI_0.mp c_9]; decide)], rfl, ⟨S, hM, by rw [sheetH, if_neg (by rw [zI_0.mp c_9]; decide)]; exact hS, fun _ _ _ _ => rfl⟩, hF⟩
        | exact ⟨by rw [sheetS, if_pos (zI_1.mp c_9), if_neg (by rw [zI_0.mp c_21]; decide)], rfl, ⟨S, hM, by rw [sheetH, if_pos (zI_1.mp c_9), if_neg (by rw [zI_0.mp c_21]; decide)]; exact hS, fun _ _ _ _ => rfl⟩, hF⟩
        | exact ⟨by rw [sheetS, if_pos (zI_1.mp c_9), if_pos (zI_1.mp c_21), if_neg c_27], rfl, ⟨S, hM, by rw [sheetH, if_pos (zI_1.mp c_9), if_pos (zI_1.mp c_21), if_neg c_27]; exact hS, fun _ _ _ _ => rfl⟩, hF⟩
    · refine st_iload_n (q := 25) dX7_sheet_24 rfl rfl rfl ?_
      refine st_bipush (q := 27) dX7_sheet_25 rfl bp_40 ?_
      refine st_icmp_le (q := 30) (tgt := 32) dX7_sheet_27 rfl rfl (fun c_27 => ?_) (fun c_27 => ?_)
      · refine st_iload_n (q := 33) dX7_sheet_32 rfl rfl rfl ?_
        refine st_if_ge (q := 36) (tgt := 39) dX7_sheet_33 rfl rfl (fun c_33 => ?_) (fun c_33 => ?_)
        · obtain ⟨j, hj, rfl⟩ := inI_k (k := 3) (zI_1.mp c_9) (by decide)
          have h1 : inI (nI j) 0 3 = true := zI_1.mp c_9
          have hjc : (nI j).toNatClampNeg = j := nI_clamp (by omega)
          have h2 : inI y 0 2 = true := zI_1.mp c_21
          refine st_aload_n (q := 40) dX7_sheet_39 rfl rfl rfl ?_
          refine g_getA (q := 43) dX7_sheet_40 rfl fl_X7_35.g hM rfl ?_
          refine st_iload_n (q := 44) dX7_sheet_43 rfl rfl rfl ?_
          refine st_iload_n (q := 45) dX7_sheet_44 rfl rfl rfl ?_
          refine m_ast (q := 46) dX7_sheet_45 rfl hM (i := 25) (by decide) rfl (by exact ev_ix_nI (j := j) (by omega) (by decide)) (fun w hM hF_ => ?_)
          replace hF := Fr.tr hF hF_
          refine st_aload_n (q := 47) dX7_sheet_46 rfl rfl rfl ?_
          refine g_getA (q := 50) dX7_sheet_47 rfl fl_X7_38.g hM rfl ?_
          refine st_iload_n (q := 51) dX7_sheet_50 rfl rfl rfl ?_
          refine st_iload_n (q := 52) dX7_sheet_51 rfl rfl rfl ?_
          refine m_ast (q := 53) dX7_sheet_52 rfl hM (i := 26) (by decide) rfl (by exact ev_ix_nI (j := j) (by omega) (by decide)) (fun w hM hF_ => ?_)
          replace hF := Fr.tr hF hF_
          refine st_iconst (q := 54) dX7_sheet_53 rfl ic_0 ?_
          refine st_istore (q := 56) (L' := [_, _, _, _, _]) dX7_sheet_54 rfl (Nat.le_of_ble_eq_true rfl) rfl ?_
          have lp : ∀ (k i : Nat), i + k = 40 → ∀ (w1 : ev_W), MR (zcM (tup (tup S 25 j y) 26 j z) j i) f 70 n w1 → Fr 70 82 w0 w1 → Ev E mX7_sheet 56 [some (.ref 70), some (.int (nI j)), some (.int y), some (.int z), some (.int (nI i))] [] n w1 (0, 0) (ev_mr (sheetS (nI j) y z) n w0 (SR9 S f (sheetH Sh (nI j) y z) n)) := by
            clear hM hF
            intro k
            induction k with
            | zero =>
              intro i hi w hM hF
              obtain rfl : 40 = i := by omega
              refine st_iload (q := 58) dX7_sheet_56 rfl rfl ?_
              refine st_bipush (q := 60) dX7_sheet_58 rfl bp_40 ?_
              refine st_icmp_ge (q := 63) (tgt := 82) dX7_sheet_60 rfl rfl (fun c_60 => ?_) (fun c_60 => False.elim (c_60 (by decide)))
              refine st_iconst (q := 83) dX7_sheet_82 rfl ic_1 ?_
              refine st_ireturn dX7_sheet_83 rfl ?_
              refine ⟨by rw [sheetS, if_pos h1, if_pos h2, if_pos c_27, if_neg (Int32.not_lt.mpr c_33)], rfl, ⟨_, hM, ?_, fun g h5 h6 h7 => by rw [zcM_n h7, tup_n h6, tup_n h5]⟩, hF⟩
              rw [sheetH, if_pos h1, if_pos h2, if_pos c_27, if_neg (Int32.not_lt.mpr c_33), hjc]
              obtain ⟨s, _, rfl⟩ := nI_of (Int32.not_lt.mpr c_33)
              obtain ⟨l, hl, e⟩ := inI_k (k := 2) h2 (by decide)
              have hs40 : s ≤ 40 := (nI_leiff (b := 40) (by omega) (by decide)).mp c_27
              exact hS.renew (by omega) hs40 ⟨l, by omega, e⟩
            | succ k ih =>
              intro i hi w hM hF
              refine st_iload (q := 58) dX7_sheet_56 rfl rfl ?_
              refine st_bipush (q := 60) dX7_sheet_58 rfl bp_40 ?_
              refine st_icmp_ge (q := 63) (tgt := 82) dX7_sheet_60 rfl rfl (fun c_60 => False.elim (absurd c_60 (nI_ge (a := i) (b := 40) (by omega) (by omega)))) (fun c_60 => ?_)
              refine st_aload_n (q := 64) dX7_sheet_63 rfl rfl rfl ?_
              refine g_getA (q := 67) dX7_sheet_64 rfl fl_X7_41.g hM rfl ?_
              refine st_bipush (q := 69) dX7_sheet_67 rfl bp_40 ?_
              refine st_iload_n (q := 70) dX7_sheet_69 rfl rfl rfl ?_
              refine st_imul (q := 71) dX7_sheet_70 rfl ?_
              refine st_iload (q := 73) dX7_sheet_71 rfl rfl ?_
              refine st_iadd (q := 74) dX7_sheet_73 rfl ?_
              refine st_iconst (q := 75) dX7_sheet_74 rfl ic_0 ?_
              refine m_ast (q := 76) dX7_sheet_75 rfl hM (i := 27) (by decide) rfl (by exact ixm (a := 40) (m := j) (c := i) (by omega) (by decide)) (fun w hM hF_ => ?_)
              replace hF := Fr.tr hF hF_
              refine st_iinc (q := 79) (L' := [_, _, _, _, _]) dX7_sheet_76 rfl rfl (nI_succ _).symm (Nat.le_of_ble_eq_true rfl) rfl ?_
              refine st_goto (q := 56) dX7_sheet_79 rfl ?_
              exact ih (i + 1) (by omega) w hM hF
          exact lp 40 0 (by omega) w hM hF
        · refine st_bipush (q := 38) dX7_sheet_36 rfl bp_m14 ?_
          refine st_ireturn dX7_sheet_38 rfl ?_
          exact ⟨by rw [sheetS, if_pos (zI_1.mp c_9), if_pos (zI_1.mp c_21), if_pos c_27, if_pos (Int32.not_le.mp c_33)], rfl, ⟨S, hM, by rw [sheetH, if_pos (zI_1.mp c_9), if_pos (zI_1.mp c_21), if_pos c_27, if_pos (Int32.not_le.mp c_33)]; exact hS, fun _ _ _ _ => rfl⟩, hF⟩
      · refine st_iconst (q := 31) dX7_sheet_30 rfl ic_m1 ?_
        refine st_ireturn dX7_sheet_31 rfl ?_
        first
          | exact ⟨by rw [sheetS, if_neg (by rw [zI_0.mp c_9]; decide)], rfl, ⟨S, hM, by rw [sheetH, if_neg (by rw [zI_0.mp c_9]; decide)]; exact hS, fun _ _ _ _ => rfl⟩, hF⟩
          | exact ⟨by rw [sheetS, if_pos (zI_1.mp c_9), if_neg (by rw [zI_0.mp c_21]; decide)], rfl, ⟨S, hM, by rw [sheetH, if_pos (zI_1.mp c_9), if_neg (by rw [zI_0.mp c_21]; decide)]; exact hS, fun _ _ _ _ => rfl⟩, hF⟩
          | exact ⟨by rw [sheetS, if_pos (zI_1.mp c_9), if_pos (zI_1.mp c_21), if_neg c_27], rfl, ⟨S, hM, by rw [sheetH, if_pos (zI_1.mp c_9), if_pos (zI_1.mp c_21), if_neg c_27]; exact hS, fun _ _ _ _ => rfl⟩, hF⟩
theorem b_sx8 (v : Int32) : (v <<< ((24 : Int32) &&& 31)) >>> ((24 : Int32) &&& 31) = v.toInt8.toInt32 := by
  refine b_ext (fun i hi => ?_)
  rw [show (24 : Int32) = nI 24 from rfl, b_sshr 24 (by decide) _ hi]
  have e : bt v.toInt8.toInt32 i = if i < 8 then bt v i else bt v 7 := by
    unfold bt
    rw [Int8.toBitVec_toInt32, Int32.toBitVec_toInt8, BitVec.getLsbD_signExtend]
    by_cases z : i < 8
    · rw [if_pos z, if_pos z, decide_eq_true hi, Bool.true_and, BitVec.getLsbD_signExtend, decide_eq_true z, Bool.true_and, if_pos hi]
    · rw [if_neg z, if_neg z, decide_eq_true hi, Bool.true_and, BitVec.msb_eq_getLsbD_last, BitVec.getLsbD_signExtend]
      rfl
  rw [e]
  by_cases z : i < 8
  · rw [if_pos z, if_pos (by omega), b_shl 24 (by decide) v (by omega), decide_eq_true (by omega), Bool.true_and, show 24 + i - 24 = i from by omega]
  · rw [if_neg z, if_neg (by omega), b_shl 24 (by decide) v (by decide)]; rfl
theorem b_sx16 (v : Int32) : (v <<< ((16 : Int32) &&& 31)) >>> ((16 : Int32) &&& 31) = v.toInt16.toInt32 := by
  refine b_ext (fun i hi => ?_)
  rw [show (16 : Int32) = nI 16 from rfl, b_sshr 16 (by decide) _ hi]
  have e : bt v.toInt16.toInt32 i = if i < 16 then bt v i else bt v 15 := by
    unfold bt
    rw [Int16.toBitVec_toInt32, Int32.toBitVec_toInt16, BitVec.getLsbD_signExtend]
    by_cases z : i < 16
    · rw [if_pos z, if_pos z, decide_eq_true hi, Bool.true_and, BitVec.getLsbD_signExtend, decide_eq_true z, Bool.true_and, if_pos hi]
    · rw [if_neg z, if_neg z, decide_eq_true hi, Bool.true_and, BitVec.msb_eq_getLsbD_last, BitVec.getLsbD_signExtend]
      rfl
  rw [e]
  by_cases z : i < 16
  · rw [if_pos z, if_pos (by omega), b_shl 16 (by decide) v (by omega), decide_eq_true (by omega), Bool.true_and, show 16 + i - 16 = i from by omega]
  · rw [if_neg z, if_neg (by omega), b_shl 16 (by decide) v (by decide)]; rfl
theorem SH.lay {Sh : Nat → gT} {S : gT} (h : SH Sh S) {k i : Nat} (hk : k < 4) (hi : i < 40) {v : Int32} : SH (fun q => if q = k then tup (Sh k) 0 i v else Sh q) (tup S 27 (40 * k + i) v) := by
  intro q hq
  by_cases e : q = k
  · subst e
    show SH1 (if q = q then _ else _) _ _
    rw [if_pos rfl]
    obtain ⟨s, hs, e3, h9⟩ := h q hk
    refine ⟨s, hs, e3, ?_⟩
    rcases h9 with h9 | ⟨a, b, c, d, g⟩
    · exact Or.inl h9
    · refine Or.inr ⟨a, b, c, d, fun r hr => ?_⟩
      rw [tup_s, tup_s]
      by_cases z : r = i
      · subst z; rw [pk_us, pk_us]
      · rw [pk_un z, pk_un (by omega)]; exact g r hr
  · show SH1 (if q = k then _ else _) _ _
    rw [if_neg e]
    exact (h q hq).c rfl rfl (fun r hr => by rw [tup_s, pk_un (by omega)])
theorem fa_m {H S : gT} {k : Nat} (h : H 1 0 = 0) {l i : Int32} : faI H l i = 1 := by rw [faI, if_pos h]
set_option maxRecDepth 100000 in
set_option maxHeartbeats 4000000 in
theorem c_X7_lay {E : ev_E} {n : Nat} {w : ev_W} {S : gT} {f : Nat → Int32} {w0 : ev_W} (hF : Fr 70 82 w0 w) (hM : MR S f 70 n w) {Sh : Nat → gT} (hS : SH Sh S) {x y z : Int32} : Ct E mX7_lay [.ref 70, .int x, .int y, .int z] n w (ev_mr (layS Sh x y) n w0 (SR9 S f (layH Sh x y z) n)) := by
  refine Ct.of 0 (by decide) (Nat.le_of_ble_eq_true rfl) rfl ?_
  refine st_iload_n (q := 1) dX7_lay_0 rfl rfl rfl ?_
  refine st_i2l (q := 2) dX7_lay_1 rfl ?_
  refine st_lconst (q := 3) dX7_lay_2 rfl lc_0 ?_
  refine st_ldc2 (q := 6) dX7_lay_3 rfl cn_X7_179 ?_
  refine sp_S3 (q := 9) (M' := mX7_in) dX7_lay_6 rfl ok_X7_in mk_X7_in ml_X7_46 ⟨Nat.le_of_ble_eq_true rfl, Nat.le_of_ble_eq_true rfl⟩ rfl (Nat.le_of_ble_eq_true rfl) ⟨rfl, rfl⟩ (c_X7_inI (a := 0) (c := 3) (by decide) (by decide)) ?_
  refine st_if_ne (q := 12) (tgt := 14) dX7_lay_9 rfl rfl (fun c_9 => ?_) (fun c_9 => ?_)
  · obtain ⟨j, hj, rfl⟩ := inI_k (k := 3) (zI_1.mp c_9) (by decide)
    have h1 : inI (nI j) 0 3 = true := zI_1.mp c_9
    have hjc : (nI j).toNatClampNeg = j := nI_clamp (by omega)
    obtain ⟨s, hs40, e3, hsh⟩ := hS j (by omega)
    refine st_aload_n (q := 15) dX7_lay_14 rfl rfl rfl ?_
    refine g_getA (q := 18) dX7_lay_15 rfl fl_X7_35.g hM rfl ?_
    refine st_iload_n (q := 19) dX7_lay_18 rfl rfl rfl ?_
    refine m_ald (q := 20) dX7_lay_19 rfl hM (i := 25) (by decide) rfl (by exact ev_ix_nI (j := j) (by omega) (by decide)) ?_
    refine st_bipush (q := 22) dX7_lay_20 rfl bp_m4 ?_
    refine st_icmp_ne (q := 25) (tgt := 28) dX7_lay_22 rfl rfl (fun c_22 => ?_) (fun c_22 => ?_)
    · obtain ⟨em, ⟨l, hl3, el⟩, e2, e26, ecl⟩ := hsh.resolve_left (fun z9 => c_22 z9.2)
      refine st_iload_n (q := 29) dX7_lay_28 rfl rfl rfl ?_
      refine st_i2l (q := 30) dX7_lay_29 rfl ?_
      refine st_lconst (q := 31) dX7_lay_30 rfl lc_0 ?_
      refine st_aload_n (q := 32) dX7_lay_31 rfl rfl rfl ?_
      refine g_getA (q := 35) dX7_lay_32 rfl fl_X7_38.g hM rfl ?_
      refine st_iload_n (q := 36) dX7_lay_35 rfl rfl rfl ?_
      refine m_ald (q := 37) dX7_lay_36 rfl hM (i := 26) (by decide) rfl (by exact ev_ix_nI (j := j) (by omega) (by decide)) ?_
      rw [e26]
      refine st_iconst (q := 38) dX7_lay_37 rfl ic_1 ?_
      refine st_isub (q := 39) dX7_lay_38 rfl ?_
      refine st_i2l (q := 40) dX7_lay_39 rfl ?_
      refine sp_S3 (q := 43) (M' := mX7_in) dX7_lay_40 rfl ok_X7_in mk_X7_in ml_X7_46 ⟨Nat.le_of_ble_eq_true rfl, Nat.le_of_ble_eq_true rfl⟩ rfl (Nat.le_of_ble_eq_true rfl) ⟨rfl, rfl⟩ (c_X7_inI (a := 0) (by decide) rfl) ?_
      refine st_if_ne (q := 46) (tgt := 49) dX7_lay_43 rfl rfl (fun c_43 => ?_) (fun c_43 => ?_)
      · obtain ⟨r, hr, rfl⟩ := inI_ix (zI_1.mp c_43) (by omega)
        have hrc : (nI r).toNatClampNeg = r := nI_clamp (by omega)
        have hf0 : faI (Sh j) (Sh j 2 0) (nI r) = 0 := by rw [faI, if_neg (by rw [em]; decide), if_pos rfl, e3, if_pos (zI_1.mp c_43)]
        refine st_aload_n (q := 50) dX7_lay_49 rfl rfl rfl ?_
        refine g_getA (q := 53) dX7_lay_50 rfl fl_X7_41.g hM rfl ?_
        refine st_bipush (q := 55) dX7_lay_53 rfl bp_40 ?_
        refine st_iload_n (q := 56) dX7_lay_55 rfl rfl rfl ?_
        refine st_imul (q := 57) dX7_lay_56 rfl ?_
        refine st_iload_n (q := 58) dX7_lay_57 rfl rfl rfl ?_
        refine st_iadd (q := 59) dX7_lay_58 rfl ?_
        refine st_aload_n (q := 60) dX7_lay_59 rfl rfl rfl ?_
        refine g_getA (q := 63) dX7_lay_60 rfl fl_X7_35.g hM rfl ?_
        refine st_iload_n (q := 64) dX7_lay_63 rfl rfl rfl ?_
        refine m_ald (q := 65) dX7_lay_64 rfl hM (i := 25) (by decide) rfl (by exact ev_ix_nI (j := j) (by omega) (by decide)) ?_
        refine st_if_ne (q := 68) (tgt := 78) dX7_lay_65 rfl rfl (fun c_65 => ?_) (fun c_65 => ?_)
        · refine st_aload_n (q := 79) dX7_lay_78 rfl rfl rfl ?_
          refine g_getA (q := 82) dX7_lay_79 rfl fl_X7_35.g hM rfl ?_
          refine st_iload_n (q := 83) dX7_lay_82 rfl rfl rfl ?_
          refine m_ald (q := 84) dX7_lay_83 rfl hM (i := 25) (by decide) rfl (by exact ev_ix_nI (j := j) (by omega) (by decide)) ?_
          refine st_iconst (q := 85) dX7_lay_84 rfl ic_1 ?_
          refine st_icmp_ne (q := 88) (tgt := 98) dX7_lay_85 rfl rfl (fun c_85 => ?_) (fun c_85 => ?_)
          · refine st_iload_n (q := 99) dX7_lay_98 rfl rfl rfl ?_
            refine m_ast (q := 100) dX7_lay_99 rfl hM (i := 27) (by decide) rfl (by exact ixm (a := 40) (m := j) (c := r) (by omega) (by decide)) (fun w hM hF_ => ?_)
            replace hF := Fr.tr hF hF_
            refine st_iconst (q := 101) dX7_lay_100 rfl ic_1 ?_
            refine st_ireturn dX7_lay_101 rfl ?_
            refine ⟨by rw [layS, if_pos h1, hjc, if_pos hf0], rfl, ⟨_, hM, ?_, fun g _ _ h7 => tup_n h7⟩, hF⟩
            rw [layH, if_pos h1, hjc, if_pos hf0, hrc]
            first
              | (rw [show lbI (Sh j) z = (z <<< ((24 : Int32) &&& 31)) >>> ((24 : Int32) &&& 31) from by rw [lbI, e2, if_pos c_65, b_sx8]]; exact hS.lay (by omega) (by omega))
              | (rw [show lbI (Sh j) z = (z <<< ((16 : Int32) &&& 31)) >>> ((16 : Int32) &&& 31) from by rw [lbI, e2, if_neg c_65, if_pos c_85, b_sx16]]; exact hS.lay (by omega) (by omega))
              | (rw [show lbI (Sh j) z = z from by rw [lbI, e2, if_neg c_65, if_neg c_85]]; exact hS.lay (by omega) (by omega))
          · refine st_iload_n (q := 89) dX7_lay_88 rfl rfl rfl ?_
            refine st_bipush (q := 91) dX7_lay_89 rfl bp_16 ?_
            refine st_ishl (q := 92) dX7_lay_91 rfl ?_
            refine st_bipush (q := 94) dX7_lay_92 rfl bp_16 ?_
            refine st_ishr (q := 95) dX7_lay_94 rfl ?_
            refine st_goto (q := 99) dX7_lay_95 rfl ?_
            refine m_ast (q := 100) dX7_lay_99 rfl hM (i := 27) (by decide) rfl (by exact ixm (a := 40) (m := j) (c := r) (by omega) (by decide)) (fun w hM hF_ => ?_)
            replace hF := Fr.tr hF hF_
            refine st_iconst (q := 101) dX7_lay_100 rfl ic_1 ?_
            refine st_ireturn dX7_lay_101 rfl ?_
            refine ⟨by rw [layS, if_pos h1, hjc, if_pos hf0], rfl, ⟨_, hM, ?_, fun g _ _ h7 => tup_n h7⟩, hF⟩
            rw [layH, if_pos h1, hjc, if_pos hf0, hrc]
            first
              | (rw [show lbI (Sh j) z = (z <<< ((24 : Int32) &&& 31)) >>> ((24 : Int32) &&& 31) from by rw [lbI, e2, if_pos c_65, b_sx8]]; exact hS.lay (by omega) (by omega))
              | (rw [show lbI (Sh j) z = (z <<< ((16 : Int32) &&& 31)) >>> ((16 : Int32) &&& 31) from by rw [lbI, e2, if_neg c_65, if_pos c_85, b_sx16]]; exact hS.lay (by omega) (by omega))
              | (rw [show lbI (Sh j) z = z from by rw [lbI, e2, if_neg c_65, if_neg c_85]]; exact hS.lay (by omega) (by omega))
        · refine st_iload_n (q := 69) dX7_lay_68 rfl rfl rfl ?_
          refine st_bipush (q := 71) dX7_lay_69 rfl bp_24 ?_
          refine st_ishl (q := 72) dX7_lay_71 rfl ?_
          refine st_bipush (q := 74) dX7_lay_72 rfl bp_24 ?_
          refine st_ishr (q := 75) dX7_lay_74 rfl ?_
          refine st_goto (q := 99) dX7_lay_75 rfl ?_
          refine m_ast (q := 100) dX7_lay_99 rfl hM (i := 27) (by decide) rfl (by exact ixm (a := 40) (m := j) (c := r) (by omega) (by decide)) (fun w hM hF_ => ?_)
          replace hF := Fr.tr hF hF_
          refine st_iconst (q := 101) dX7_lay_100 rfl ic_1 ?_
          refine st_ireturn dX7_lay_101 rfl ?_
          refine ⟨by rw [layS, if_pos h1, hjc, if_pos hf0], rfl, ⟨_, hM, ?_, fun g _ _ h7 => tup_n h7⟩, hF⟩
          rw [layH, if_pos h1, hjc, if_pos hf0, hrc]
          first
            | (rw [show lbI (Sh j) z = (z <<< ((24 : Int32) &&& 31)) >>> ((24 : Int32) &&& 31) from by rw [lbI, e2, if_pos c_65, b_sx8]]; exact hS.lay (by omega) (by omega))
            | (rw [show lbI (Sh j) z = (z <<< ((16 : Int32) &&& 31)) >>> ((16 : Int32) &&& 31) from by rw [lbI, e2, if_neg c_65, if_pos c_85, b_sx16]]; exact hS.lay (by omega) (by omega))
            | (rw [show lbI (Sh j) z = z from by rw [lbI, e2, if_neg c_65, if_neg c_85]]; exact hS.lay (by omega) (by omega))
      · refine st_bipush (q := 48) dX7_lay_46 rfl bp_m12 ?_
        refine st_ireturn dX7_lay_48 rfl ?_
        have hfa : faI (Sh j) (Sh j 2 0) y = 2 := by rw [faI, if_neg (by rw [em]; decide), if_pos rfl, e3, if_neg (by rw [zI_0.mp c_43]; decide)]
        exact ⟨by rw [layS, if_pos h1, hjc, hfa]; rfl, rfl, ⟨S, hM, by rw [layH, if_pos h1, hjc, hfa]; exact hS, fun _ _ _ _ => rfl⟩, hF⟩
    · refine st_bipush (q := 27) dX7_lay_25 rfl bp_m11 ?_
      refine st_ireturn dX7_lay_27 rfl ?_
      have hfa : faI (Sh j) (Sh j 2 0) y = 1 := by
        rcases hsh with z9 | z9
        · rw [faI, if_pos z9.1]
        · obtain ⟨l, hl, el⟩ := z9.2.1
          exact absurd (by rw [← el]; exact c_22) (nI_n4 (i := l) (by omega))
      exact ⟨by rw [layS, if_pos h1, hjc, hfa]; rfl, rfl, ⟨S, hM, by rw [layH, if_pos h1, hjc, hfa]; exact hS, fun _ _ _ _ => rfl⟩, hF⟩
  · refine st_iconst (q := 13) dX7_lay_12 rfl ic_m1 ?_
    refine st_ireturn dX7_lay_13 rfl ?_
    exact ⟨by rw [layS, if_neg (by rw [zI_0.mp c_9]; decide)], rfl, ⟨S, hM, by rw [layH, if_neg (by rw [zI_0.mp c_9]; decide)]; exact hS, fun _ _ _ _ => rfl⟩, hF⟩
