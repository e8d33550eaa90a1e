def pmF (T : gT) (nt j : Nat) (op : Int32) : Nat → Int32 × Int32
  | 0 => (0, 0)
  | s + 1 => pk1 T nt j op s (pmF T nt j op s)
theorem cs_0 {T : gT} : ∀ k, k ≤ 8 → csT T 0 k = 0
  | 0, _ => rfl
  | k + 1, hk => by rw [csT, cs_0 k (by omega), if_pos ((sh1_0 0 (by omega)).mpr (b_0 k))]; rfl
theorem fs_0 {T : gT} : ∀ k, k ≤ 8 → fsT T 0 k = 0
  | 0, _ => rfl
  | k + 1, hk => by rw [fsT, fs_0 k (by omega), if_pos ((sh1_0 0 (by omega)).mpr (b_0 k))]; rfl
theorem pk1_0 {T : gT} {nt j : Nat} {op : Int32} (hnt : nt ≤ 8) : pk1 T nt j op 0 (0, 0) = (0, 0) := by
  unfold pk1
  split
  · split
    · rw [if_neg]
      rw [show nI 0 = (0 : Int32) from rfl, cs_0 nt hnt]
      decide
    · rfl
  · rfl
theorem pm_pk {T : gT} {nt j : Nat} {op : Int32} (hnt : nt ≤ 8) : ∀ s, pmF T nt j op (s + 1) = pkF T nt j op s
  | 0 => pk1_0 hnt
  | s + 1 => by rw [pmF, pm_pk hnt s]; rfl
theorem big_tab : ∀ nt, nt < 9 → ∀ s, s < 256 → 2 ^ nt ≤ s → (List.range 8).any (fun i => decide (nt ≤ i) && bt (nI s) i) = true := by decide +kernel
theorem pk_big {T : gT} {nt j s : Nat} {x : Int32} {r : Int32 × Int32} (hnt : nt ≤ 8) (hs : s < 256) (hb : 2 ^ nt ≤ s) : pk1 T nt j (tkI T x nt) s r = r := by
  obtain ⟨i, hi, h⟩ := List.any_eq_true.mp (big_tab nt (by omega) s hs hb)
  have hi := List.mem_range.mp hi
  simp only [Bool.and_eq_true, decide_eq_true_eq] at h
  unfold pk1
  rw [if_neg]
  intro z
  refine and0.mp z i (by omega) h.2 ?_
  rw [bt_not _ (by omega), tkI, b_and, ths_bt x nt hnt i (by omega), decide_eq_false (by omega : ¬ i < nt)]
  rfl
theorem pk_end {T : gT} {nt j : Nat} {x : Int32} (hnt : nt ≤ 8) : ∀ d, 2 ^ nt - 1 + d ≤ 255 → pkF T nt j (tkI T x nt) (2 ^ nt - 1 + d) = pkF T nt j (tkI T x nt) (2 ^ nt - 1)
  | 0, _ => rfl
  | d + 1, hd => by
    rw [← Nat.add_assoc, pkF, pk_big hnt (by omega) (by have := Nat.pos_of_ne_zero (show 2 ^ nt ≠ 0 from by have := Nat.two_pow_pos nt; omega); omega), pk_end hnt d (by omega)]
theorem pm_255 {T : gT} {nt j : Nat} {x : Int32} (hnt : nt ≤ 8) : pkF T nt j (tkI T x nt) 255 = pmF T nt j (tkI T x nt) (2 ^ nt) := by
  have h1 := p2_le nt (by omega)
  have h2 := Nat.two_pow_pos nt
  have := pk_end (T := T) (j := j) (x := x) hnt (255 - (2 ^ nt - 1)) (by omega)
  rw [show 2 ^ nt - 1 + (255 - (2 ^ nt - 1)) = 255 from by omega] at this
  rw [this, ← pm_pk hnt, show 2 ^ nt - 1 + 1 = 2 ^ nt from by omega]
theorem pm_cs {T : gT} {nt j : Nat} {op : Int32} (hnt : nt ≤ 8) : ∀ s, (pmF T nt j op s).1 = csT T (pmF T nt j op s).2 nt
  | 0 => (cs_0 nt hnt).symm
  | s + 1 => by
    rw [pmF]
    unfold pk1
    split
    · split
      · split
        · rfl
        · exact pm_cs hnt s
      · exact pm_cs hnt s
    · exact pm_cs hnt s
theorem sub_bits {x y : Int32} : x &&& y = x ↔ x &&& (y ^^^ -1) = 0 := by
  constructor
  · intro h
    refine and0.mpr (fun i hi h1 h2 => ?_)
    rw [bt_not _ hi] at h2
    have e : bt (x &&& y) i = bt x i := by rw [h]
    rw [b_and, h1] at e
    simp only [Bool.true_and] at e
    rw [e] at h2
    cases h2
  · intro h
    refine b_ext (fun i hi => ?_)
    rw [b_and]
    cases h1 : bt x i with
    | false => rfl
    | true =>
      cases h2 : bt y i with
      | true => rfl
      | false => exact (and0.mp h i hi h1 (by rw [bt_not _ hi, h2]; rfl)).elim
theorem sh_01 (x : Int32) {k : Nat} (hk : k < 32) (h : ¬ (x >>> (nI k &&& 31)) &&& 1 = 1) : (x >>> (nI k &&& 31)) &&& 1 = 0 := by
  cases hb : bt x k with
  | true => exact absurd ((sh1_1 x hk).mpr hb) h
  | false => exact (sh1_0 x hk).mpr hb
set_option maxRecDepth 100000 in
set_option maxHeartbeats 4000000 in
theorem c_X7_pack {E : ev_E} {n : Nat} {w : ev_W} {S0 S : gT} {f0 f : Nat → Int32} {w0 : ev_W} (hF : Fr 70 82 w0 w) (hM : MR S f 70 n w) (hA : QA S0 S f0 f) {T : gT} {nh nt dd : Nat} (hG : GQ S f T nh nt dd) {x y : Int32} : Ct E mX7_pack [.ref 70, .int x, .int y] n w (ev_mr (packS T nh nt x y) n w0 (QR S0 f0 n)) := by
  refine Ct.of 8 (by decide) (Nat.le_of_ble_eq_true rfl) rfl ?_
  have hN8 := hG.1.1.hnt
  have hp2 := p2_le nt (by omega)
  refine st_aload_n (q := 1) dX7_pack_0 rfl rfl rfl ?_
  refine st_iload_n (q := 2) dX7_pack_1 rfl rfl rfl ?_
  refine sp_V1 (q := 5) (M' := mX7_isHouse) dX7_pack_2 rfl ok_X7_isHouse mk_X7_isHouse ml_X7_167 ⟨Nat.le_of_ble_eq_true rfl, Nat.le_of_ble_eq_true rfl⟩ rfl (Nat.le_of_ble_eq_true rfl) (g_rv hM rfl) ⟨rfl, rfl⟩ (c_X7_isHouse hM) ?_
  refine st_if_eq (q := 8) (tgt := 20) dX7_pack_5 rfl rfl (fun c_5 => ?_) (fun c_5 => ?_)
  · refine st_iconst (q := 21) dX7_pack_20 rfl ic_m1 ?_
    refine st_ireturn dX7_pack_21 rfl ?_
    first
      | exact ⟨by rw [packS, if_neg (by rw [← hG.2.1, zI_0.mp c_5]; decide)], rfl, ⟨_, _, hM, hA⟩, hF⟩
      | exact ⟨by rw [packS, if_pos (by rw [← hG.2.1]; exact zI_1.mp c_5), if_neg (by rw [zI_0.mp c_17]; decide)], rfl, ⟨_, _, hM, hA⟩, hF⟩
  · refine st_iload_n (q := 9) dX7_pack_8 rfl rfl rfl ?_
    refine st_i2l (q := 10) dX7_pack_9 rfl ?_
    refine st_lconst (q := 11) dX7_pack_10 rfl lc_0 ?_
    refine st_ldc2 (q := 14) dX7_pack_11 rfl cn_X7_211 ?_
    refine sp_S3 (q := 17) (M' := mX7_in) dX7_pack_14 rfl ok_X7_in mk_X7_in ml_X7_46 ⟨Nat.le_of_ble_eq_true rfl, Nat.le_of_ble_eq_true rfl⟩ rfl (Nat.le_of_ble_eq_true rfl) ⟨rfl, rfl⟩ (c_X7_inI (a := 0) (c := 2) (by decide) (by decide)) ?_
    refine st_if_ne (q := 20) (tgt := 22) dX7_pack_17 rfl rfl (fun c_17 => ?_) (fun c_17 => ?_)
    · have hN9 := hG.1.1.hnh
      obtain ⟨j, hj, rfl⟩ := inI_ix (by rw [← hG.2.1]; exact zI_1.mp c_5) (by omega)
      have h1 : inI (nI j) 0 (nI nh - 1) = true := by rw [← hG.2.1]; exact zI_1.mp c_5
      have hjc : (nI j).toNatClampNeg = j := nI_clamp (by omega)
      have h2 : inI y 0 2 = true := zI_1.mp c_17
      refine st_aload_n (q := 23) dX7_pack_22 rfl rfl rfl ?_
      refine st_iconst (q := 24) dX7_pack_23 rfl ic_0 ?_
      refine st_iload_n (q := 25) dX7_pack_24 rfl rfl rfl ?_
      refine sp_V2 (q := 28) (M' := mX7_ofHouse) dX7_pack_25 rfl ok_X7_ofHouse mk_X7_ofHouse ml_X7_173 ⟨Nat.le_of_ble_eq_true rfl, Nat.le_of_ble_eq_true rfl⟩ rfl (Nat.le_of_ble_eq_true rfl) (g_rv hM rfl) ⟨rfl, rfl⟩ (c_X7_ofHouse hM (p := 0) (by decide) hG.2.2.1 hG.1.1.hnt) ?_
      refine st_aload_n (q := 29) dX7_pack_28 rfl rfl rfl ?_
      refine st_iconst (q := 30) dX7_pack_29 rfl ic_0 ?_
      refine st_iconst (q := 31) dX7_pack_30 rfl ic_2 ?_
      refine sp_V2 (q := 34) (M' := mX7_thoseOn) dX7_pack_31 rfl ok_X7_thoseOn mk_X7_thoseOn ml_X7_164 ⟨Nat.le_of_ble_eq_true rfl, Nat.le_of_ble_eq_true rfl⟩ rfl (Nat.le_of_ble_eq_true rfl) (g_rv hM rfl) ⟨rfl, rfl⟩ (c_X7_thoseOn hM (p := 0) (by decide) hG.2.2.1 hG.1.1.hnt) ?_
      refine st_iconst (q := 35) dX7_pack_34 rfl ic_m1 ?_
      refine st_ixor (q := 36) dX7_pack_35 rfl ?_
      refine st_iand (q := 37) dX7_pack_36 rfl ?_
      rw [hG.1.1.oh _ nt (Nat.le_refl _), hG.1.1.th2]
      refine st_istore_n (q := 38) (L' := [_, _, _, _, _, _, _, _, _, _, _]) dX7_pack_37 rfl rfl (Nat.le_of_ble_eq_true rfl) rfl ?_
      refine st_iconst (q := 39) dX7_pack_38 rfl ic_0 ?_
      refine st_istore (q := 41) (L' := [_, _, _, _, _, _, _, _, _, _, _]) dX7_pack_39 rfl (Nat.le_of_ble_eq_true rfl) rfl ?_
      skip
      refine st_iconst (q := 42) dX7_pack_41 rfl ic_0 ?_
      refine st_istore (q := 44) (L' := [_, _, _, _, _, _, _, _, _, _, _]) dX7_pack_42 rfl (Nat.le_of_ble_eq_true rfl) rfl ?_
      refine st_iconst (q := 45) dX7_pack_44 rfl ic_0 ?_
      refine st_istore (q := 47) (L' := [_, _, _, _, _, _, _, _, _, _, _]) dX7_pack_45 rfl (Nat.le_of_ble_eq_true rfl) rfl ?_
      refine st_iconst (q := 48) dX7_pack_47 rfl ic_0 ?_
      refine st_istore (q := 50) (L' := [_, _, _, _, _, _, _, _, _, _, _]) dX7_pack_48 rfl (Nat.le_of_ble_eq_true rfl) rfl ?_
      have lp : ∀ (k i : Nat), i + k = 2 ^ nt → ∀ (w1 : ev_W) (S1 : gT) (f1 : Nat → Int32) (l8 l9 l10 : Option Value), MR S1 f1 70 n w1 → QA S0 S1 f0 f1 → GQ S1 f1 T nh nt dd → Fr 70 82 w0 w1 → Ev E mX7_pack 50 [some (.ref 70), some (.int (nI j)), some (.int y), some (.int (tkI T (nI j) nt)), some (.int (pmF T nt j (tkI T (nI j) nt) i).2), some (.int (pmF T nt j (tkI T (nI j) nt) i).1), some (.int (fsT T (pmF T nt j (tkI T (nI j) nt) i).2 nt)), some (.int (nI i)), l8, l9, l10] [] n w1 (0, 0) (ev_mr (packS T nh nt (nI j) y) n w0 (QR S0 f0 n)) := by
        clear hM hA hG hF
        intro k
        induction k with
        | zero =>
          intro i hi w S f l8 l9 l10 hM hA hG hF 
          obtain rfl : 2 ^ nt = i := by omega
          refine st_iload (q := 52) dX7_pack_50 rfl rfl ?_
          refine st_iconst (q := 53) dX7_pack_52 rfl ic_1 ?_
          refine st_aload_n (q := 54) dX7_pack_53 rfl rfl rfl ?_
          refine m_get (q := 57) dX7_pack_54 rfl fl_X7_139.g hM (by decide) rfl ?_
          rw [hG.2.2.1]
          refine st_ishl (q := 58) dX7_pack_57 rfl ?_
          rw [sh1_n nt (by omega)]
          refine st_icmp_ge (q := 61) (tgt := 186) dX7_pack_58 rfl rfl (fun c_58 => ?_) (fun c_58 => False.elim (c_58 (Int32.le_refl _)))
          refine st_iload_n (q := 187) dX7_pack_186 rfl rfl rfl ?_
          refine st_if_ne (q := 190) (tgt := 195) dX7_pack_187 rfl rfl (fun c_187 => ?_) (fun c_187 => ?_)
          · refine st_iload_n (q := 196) dX7_pack_195 rfl rfl rfl ?_
            refine st_iconst (q := 197) dX7_pack_196 rfl ic_1 ?_
            refine st_icmp_ne (q := 200) (tgt := 205) dX7_pack_197 rfl rfl (fun c_197 => ?_) (fun c_197 => ?_)
            · refine st_iload (q := 207) dX7_pack_205 rfl rfl ?_
              refine st_ireturn dX7_pack_207 rfl ?_
              refine ⟨?_, rfl, ⟨_, _, hM, hA⟩, hF⟩
              have hp9 : packS T nh nt (nI j) y = if y = 0 then (pmF T nt j (tkI T (nI j) nt) (2 ^ nt)).2 else if y = 1 then csT T (pmF T nt j (tkI T (nI j) nt) (2 ^ nt)).2 nt else fsT T (pmF T nt j (tkI T (nI j) nt) (2 ^ nt)).2 nt := by rw [packS, if_pos h1, if_pos h2, hjc, pm_255 hN8]
              rw [hp9]
              first
                | rw [if_pos c_187]
                | rw [if_neg c_187, if_pos c_197, pm_cs hN8]
                | rw [if_neg c_187, if_neg c_197]
            · refine st_iload (q := 202) dX7_pack_200 rfl rfl ?_
              refine st_goto (q := 207) dX7_pack_202 rfl ?_
              refine st_ireturn dX7_pack_207 rfl ?_
              refine ⟨?_, rfl, ⟨_, _, hM, hA⟩, hF⟩
              have hp9 : packS T nh nt (nI j) y = if y = 0 then (pmF T nt j (tkI T (nI j) nt) (2 ^ nt)).2 else if y = 1 then csT T (pmF T nt j (tkI T (nI j) nt) (2 ^ nt)).2 nt else fsT T (pmF T nt j (tkI T (nI j) nt) (2 ^ nt)).2 nt := by rw [packS, if_pos h1, if_pos h2, hjc, pm_255 hN8]
              rw [hp9]
              first
                | rw [if_pos c_187]
                | rw [if_neg c_187, if_pos c_197, pm_cs hN8]
                | rw [if_neg c_187, if_neg c_197]
          · refine st_iload (q := 192) dX7_pack_190 rfl rfl ?_
            refine st_goto (q := 207) dX7_pack_192 rfl ?_
            refine st_ireturn dX7_pack_207 rfl ?_
            refine ⟨?_, rfl, ⟨_, _, hM, hA⟩, hF⟩
            have hp9 : packS T nh nt (nI j) y = if y = 0 then (pmF T nt j (tkI T (nI j) nt) (2 ^ nt)).2 else if y = 1 then csT T (pmF T nt j (tkI T (nI j) nt) (2 ^ nt)).2 nt else fsT T (pmF T nt j (tkI T (nI j) nt) (2 ^ nt)).2 nt := by rw [packS, if_pos h1, if_pos h2, hjc, pm_255 hN8]
            rw [hp9]
            first
              | rw [if_pos c_187]
              | rw [if_neg c_187, if_pos c_197, pm_cs hN8]
              | rw [if_neg c_187, if_neg c_197]
        | succ k ih =>
          intro i hi w S f l8 l9 l10 hM hA hG hF 
          refine st_iload (q := 52) dX7_pack_50 rfl rfl ?_
          refine st_iconst (q := 53) dX7_pack_52 rfl ic_1 ?_
          refine st_aload_n (q := 54) dX7_pack_53 rfl rfl rfl ?_
          refine m_get (q := 57) dX7_pack_54 rfl fl_X7_139.g hM (by decide) rfl ?_
          rw [hG.2.2.1]
          refine st_ishl (q := 58) dX7_pack_57 rfl ?_
          rw [sh1_n nt (by omega)]
          refine st_icmp_ge (q := 61) (tgt := 186) dX7_pack_58 rfl rfl (fun c_58 => False.elim (absurd c_58 (nI_ge (a := i) (b := 2 ^ nt) (by omega) (by omega)))) (fun c_58 => ?_)
          refine st_iconst (q := 62) dX7_pack_61 rfl ic_0 ?_
          refine st_istore (q := 64) (L' := [_, _, _, _, _, _, _, _, _, _, _]) dX7_pack_62 rfl (Nat.le_of_ble_eq_true rfl) rfl ?_
          refine st_iconst (q := 65) dX7_pack_64 rfl ic_0 ?_
          refine st_istore (q := 67) (L' := [_, _, _, _, _, _, _, _, _, _, _]) dX7_pack_65 rfl (Nat.le_of_ble_eq_true rfl) rfl ?_
          refine st_iconst (q := 68) dX7_pack_67 rfl ic_0 ?_
          refine st_istore (q := 70) (L' := [_, _, _, _, _, _, _, _, _, _, _]) dX7_pack_68 rfl (Nat.le_of_ble_eq_true rfl) rfl ?_
          have e2j : f (4 + j) = T 2 j := by have := (hG.1.1.hs hj).2.1; rw [Nat.zero_add] at this; exact this.symm
          have inn : ∀ (k2 r : Nat), r + k2 = nt → Ev E mX7_pack 70 [some (.ref 70), some (.int (nI j)), some (.int y), some (.int (tkI T (nI j) nt)), some (.int (pmF T nt j (tkI T (nI j) nt) i).2), some (.int (pmF T nt j (tkI T (nI j) nt) i).1), some (.int (fsT T (pmF T nt j (tkI T (nI j) nt) i).2 nt)), some (.int (nI i)), some (.int (fsT T (nI i) r)), some (.int (csT T (nI i) r)), some (.int (nI r))] [] n w (0, 0) (ev_mr (packS T nh nt (nI j) y) n w0 (QR S0 f0 n)) := by
            intro k2
            induction k2 with
            | zero =>
              intro r hi2
              obtain rfl : nt = r := by omega
              refine st_iload (q := 72) dX7_pack_70 rfl rfl ?_
              refine st_aload_n (q := 73) dX7_pack_72 rfl rfl rfl ?_
              refine m_get (q := 76) dX7_pack_73 rfl fl_X7_139.g hM (by decide) rfl ?_
              refine st_icmp_ge (q := 79) (tgt := 139) dX7_pack_76 rfl rfl (fun c_76 => ?_) (fun c_76 => False.elim (c_76 (by rw [hG.2.2.1]; exact Int32.le_refl _)))
              refine st_iload (q := 141) dX7_pack_139 rfl rfl ?_
              refine st_iload_n (q := 142) dX7_pack_141 rfl rfl rfl ?_
              refine st_iand (q := 143) dX7_pack_142 rfl ?_
              refine st_iload (q := 145) dX7_pack_143 rfl rfl ?_
              refine st_icmp_ne (q := 148) (tgt := 180) dX7_pack_145 rfl rfl (fun c_145 => ?_) (fun c_145 => ?_)
              · refine st_iinc (q := 183) (L' := [_, _, _, _, _, _, _, _, _, _, _]) dX7_pack_180 rfl rfl (nI_succ _).symm (Nat.le_of_ble_eq_true rfl) rfl ?_
                refine st_goto (q := 50) dX7_pack_183 rfl ?_
                have ih9 := fun a b c => ih (i + 1) (by omega) w S f a b c hM hA hG hF
                first
                  | (have e9 : pmF T nt j (tkI T (nI j) nt) (i + 1) = pmF T nt j (tkI T (nI j) nt) i := by rw [pmF, pk1, if_neg (fun z => c_145 (sub_bits.mpr z))]
                     rw [e9] at ih9; exact ih9 _ _ _)
                  | (have e9 : pmF T nt j (tkI T (nI j) nt) (i + 1) = pmF T nt j (tkI T (nI j) nt) i := by rw [pmF, pk1, if_pos (sub_bits.mp c_145), if_neg (Int32.not_le.mpr c_158)]
                     rw [e9] at ih9; exact ih9 _ _ _)
                  | (have e9 : pmF T nt j (tkI T (nI j) nt) (i + 1) = pmF T nt j (tkI T (nI j) nt) i := by rw [pmF, pk1, if_pos (sub_bits.mp c_145), if_pos (Int32.not_lt.mp c_158), if_neg (Int32.not_lt.mpr c_165)]
                     rw [e9] at ih9; exact ih9 _ _ _)
                  | (have e9 : pmF T nt j (tkI T (nI j) nt) (i + 1) = (csT T (nI i) nt, nI i) := by rw [pmF, pk1, if_pos (sub_bits.mp c_145), if_pos (Int32.not_lt.mp c_158), if_pos (Int32.not_le.mp c_165)]
                     rw [e9] at ih9; exact ih9 _ _ _)
              · refine st_iload (q := 150) dX7_pack_148 rfl rfl ?_
                refine st_aload_n (q := 151) dX7_pack_150 rfl rfl rfl ?_
                refine g_getA (q := 154) dX7_pack_151 rfl fl_X7_7.g hM rfl ?_
                refine st_iconst (q := 155) dX7_pack_154 rfl ic_4 ?_
                refine st_iload_n (q := 156) dX7_pack_155 rfl rfl rfl ?_
                refine st_iadd (q := 157) dX7_pack_156 rfl ?_
                refine m_sld (q := 158) dX7_pack_157 rfl hM (by exact ix2 (a := 4) (b := j) (by omega) (by decide)) ?_
                rw [e2j]
                refine st_icmp_gt (q := 161) (tgt := 180) dX7_pack_158 rfl rfl (fun c_158 => ?_) (fun c_158 => ?_)
                · refine st_iinc (q := 183) (L' := [_, _, _, _, _, _, _, _, _, _, _]) dX7_pack_180 rfl rfl (nI_succ _).symm (Nat.le_of_ble_eq_true rfl) rfl ?_
                  refine st_goto (q := 50) dX7_pack_183 rfl ?_
                  have ih9 := fun a b c => ih (i + 1) (by omega) w S f a b c hM hA hG hF
                  first
                    | (have e9 : pmF T nt j (tkI T (nI j) nt) (i + 1) = pmF T nt j (tkI T (nI j) nt) i := by rw [pmF, pk1, if_neg (fun z => c_145 (sub_bits.mpr z))]
                       rw [e9] at ih9; exact ih9 _ _ _)
                    | (have e9 : pmF T nt j (tkI T (nI j) nt) (i + 1) = pmF T nt j (tkI T (nI j) nt) i := by rw [pmF, pk1, if_pos (sub_bits.mp c_145), if_neg (Int32.not_le.mpr c_158)]
                       rw [e9] at ih9; exact ih9 _ _ _)
                    | (have e9 : pmF T nt j (tkI T (nI j) nt) (i + 1) = pmF T nt j (tkI T (nI j) nt) i := by rw [pmF, pk1, if_pos (sub_bits.mp c_145), if_pos (Int32.not_lt.mp c_158), if_neg (Int32.not_lt.mpr c_165)]
                       rw [e9] at ih9; exact ih9 _ _ _)
                    | (have e9 : pmF T nt j (tkI T (nI j) nt) (i + 1) = (csT T (nI i) nt, nI i) := by rw [pmF, pk1, if_pos (sub_bits.mp c_145), if_pos (Int32.not_lt.mp c_158), if_pos (Int32.not_le.mp c_165)]
                       rw [e9] at ih9; exact ih9 _ _ _)
                · refine st_iload (q := 163) dX7_pack_161 rfl rfl ?_
                  refine st_iload (q := 165) dX7_pack_163 rfl rfl ?_
                  refine st_icmp_le (q := 168) (tgt := 180) dX7_pack_165 rfl rfl (fun c_165 => ?_) (fun c_165 => ?_)
                  · refine st_iinc (q := 183) (L' := [_, _, _, _, _, _, _, _, _, _, _]) dX7_pack_180 rfl rfl (nI_succ _).symm (Nat.le_of_ble_eq_true rfl) rfl ?_
                    refine st_goto (q := 50) dX7_pack_183 rfl ?_
                    have ih9 := fun a b c => ih (i + 1) (by omega) w S f a b c hM hA hG hF
                    first
                      | (have e9 : pmF T nt j (tkI T (nI j) nt) (i + 1) = pmF T nt j (tkI T (nI j) nt) i := by rw [pmF, pk1, if_neg (fun z => c_145 (sub_bits.mpr z))]
                         rw [e9] at ih9; exact ih9 _ _ _)
                      | (have e9 : pmF T nt j (tkI T (nI j) nt) (i + 1) = pmF T nt j (tkI T (nI j) nt) i := by rw [pmF, pk1, if_pos (sub_bits.mp c_145), if_neg (Int32.not_le.mpr c_158)]
                         rw [e9] at ih9; exact ih9 _ _ _)
                      | (have e9 : pmF T nt j (tkI T (nI j) nt) (i + 1) = pmF T nt j (tkI T (nI j) nt) i := by rw [pmF, pk1, if_pos (sub_bits.mp c_145), if_pos (Int32.not_lt.mp c_158), if_neg (Int32.not_lt.mpr c_165)]
                         rw [e9] at ih9; exact ih9 _ _ _)
                      | (have e9 : pmF T nt j (tkI T (nI j) nt) (i + 1) = (csT T (nI i) nt, nI i) := by rw [pmF, pk1, if_pos (sub_bits.mp c_145), if_pos (Int32.not_lt.mp c_158), if_pos (Int32.not_le.mp c_165)]
                         rw [e9] at ih9; exact ih9 _ _ _)
                  · refine st_iload (q := 170) dX7_pack_168 rfl rfl ?_
                    refine st_istore (q := 172) (L' := [_, _, _, _, _, _, _, _, _, _, _]) dX7_pack_170 rfl (Nat.le_of_ble_eq_true rfl) rfl ?_
                    refine st_iload (q := 174) dX7_pack_172 rfl rfl ?_
                    refine st_istore (q := 176) (L' := [_, _, _, _, _, _, _, _, _, _, _]) dX7_pack_174 rfl (Nat.le_of_ble_eq_true rfl) rfl ?_
                    refine st_iload (q := 178) dX7_pack_176 rfl rfl ?_
                    refine st_istore (q := 180) (L' := [_, _, _, _, _, _, _, _, _, _, _]) dX7_pack_178 rfl (Nat.le_of_ble_eq_true rfl) rfl ?_
                    refine st_iinc (q := 183) (L' := [_, _, _, _, _, _, _, _, _, _, _]) dX7_pack_180 rfl rfl (nI_succ _).symm (Nat.le_of_ble_eq_true rfl) rfl ?_
                    refine st_goto (q := 50) dX7_pack_183 rfl ?_
                    have ih9 := fun a b c => ih (i + 1) (by omega) w S f a b c hM hA hG hF
                    first
                      | (have e9 : pmF T nt j (tkI T (nI j) nt) (i + 1) = pmF T nt j (tkI T (nI j) nt) i := by rw [pmF, pk1, if_neg (fun z => c_145 (sub_bits.mpr z))]
                         rw [e9] at ih9; exact ih9 _ _ _)
                      | (have e9 : pmF T nt j (tkI T (nI j) nt) (i + 1) = pmF T nt j (tkI T (nI j) nt) i := by rw [pmF, pk1, if_pos (sub_bits.mp c_145), if_neg (Int32.not_le.mpr c_158)]
                         rw [e9] at ih9; exact ih9 _ _ _)
                      | (have e9 : pmF T nt j (tkI T (nI j) nt) (i + 1) = pmF T nt j (tkI T (nI j) nt) i := by rw [pmF, pk1, if_pos (sub_bits.mp c_145), if_pos (Int32.not_lt.mp c_158), if_neg (Int32.not_lt.mpr c_165)]
                         rw [e9] at ih9; exact ih9 _ _ _)
                      | (have e9 : pmF T nt j (tkI T (nI j) nt) (i + 1) = (csT T (nI i) nt, nI i) := by rw [pmF, pk1, if_pos (sub_bits.mp c_145), if_pos (Int32.not_lt.mp c_158), if_pos (Int32.not_le.mp c_165)]
                         rw [e9] at ih9; exact ih9 _ _ _)
            | succ k2 ih2 =>
              intro r hi2
              refine st_iload (q := 72) dX7_pack_70 rfl rfl ?_
              refine st_aload_n (q := 73) dX7_pack_72 rfl rfl rfl ?_
              refine m_get (q := 76) dX7_pack_73 rfl fl_X7_139.g hM (by decide) rfl ?_
              refine st_icmp_ge (q := 79) (tgt := 139) dX7_pack_76 rfl rfl (fun c_76 => False.elim (absurd (by rw [← hG.2.2.1]; exact c_76) (nI_ge (a := r) (b := nt) (by omega) (by omega)))) (fun c_76 => ?_)
              refine st_iload (q := 81) dX7_pack_79 rfl rfl ?_
              refine st_iload (q := 83) dX7_pack_81 rfl rfl ?_
              refine st_iload (q := 85) dX7_pack_83 rfl rfl ?_
              refine st_ishr (q := 86) dX7_pack_85 rfl ?_
              refine st_iconst (q := 87) dX7_pack_86 rfl ic_1 ?_
              refine st_iand (q := 88) dX7_pack_87 rfl ?_
              refine st_iconst (q := 89) dX7_pack_88 rfl ic_1 ?_
              refine st_icmp_ne (q := 92) (tgt := 102) dX7_pack_89 rfl rfl (fun c_89 => ?_) (fun c_89 => ?_)
              · refine st_iconst (q := 103) dX7_pack_102 rfl ic_0 ?_
                refine st_iadd (q := 104) dX7_pack_103 rfl ?_
                refine st_istore (q := 106) (L' := [_, _, _, _, _, _, _, _, _, _, _]) dX7_pack_104 rfl (Nat.le_of_ble_eq_true rfl) rfl ?_
                refine st_iload (q := 108) dX7_pack_106 rfl rfl ?_
                refine st_iload (q := 110) dX7_pack_108 rfl rfl ?_
                refine st_iload (q := 112) dX7_pack_110 rfl rfl ?_
                refine st_ishr (q := 113) dX7_pack_112 rfl ?_
                refine st_iconst (q := 114) dX7_pack_113 rfl ic_1 ?_
                refine st_iand (q := 115) dX7_pack_114 rfl ?_
                refine st_iconst (q := 116) dX7_pack_115 rfl ic_1 ?_
                refine st_icmp_ne (q := 119) (tgt := 129) dX7_pack_116 rfl rfl (fun c_116 => ?_) (fun c_116 => ?_)
                · refine st_iconst (q := 130) dX7_pack_129 rfl ic_0 ?_
                  refine st_iadd (q := 131) dX7_pack_130 rfl ?_
                  refine st_istore (q := 133) (L' := [_, _, _, _, _, _, _, _, _, _, _]) dX7_pack_131 rfl (Nat.le_of_ble_eq_true rfl) rfl ?_
                  refine st_iinc (q := 136) (L' := [_, _, _, _, _, _, _, _, _, _, _]) dX7_pack_133 rfl rfl (nI_succ _).symm (Nat.le_of_ble_eq_true rfl) rfl ?_
                  refine st_goto (q := 70) dX7_pack_136 rfl ?_
                  have ih9 := ih2 (r + 1) (by omega)
                  first
                    | exact absurd c_116 c_89
                    | exact absurd c_89 c_116
                    | (rw [fsT, csT, if_neg (show ¬ (nI i >>> (nI r &&& 31)) &&& 1 = 0 from by rw [c_89]; decide), if_neg (show ¬ (nI i >>> (nI r &&& 31)) &&& 1 = 0 from by rw [c_89]; decide)] at ih9; exact ih9)
                    | (rw [fsT, csT, if_pos (sh_01 (nI i) (by omega) c_89), if_pos (sh_01 (nI i) (by omega) c_89)] at ih9; exact ih9)
                · refine st_aload_n (q := 120) dX7_pack_119 rfl rfl rfl ?_
                  refine st_iconst (q := 121) dX7_pack_120 rfl ic_0 ?_
                  refine st_iload (q := 123) dX7_pack_121 rfl rfl ?_
                  refine sp_V2 (q := 126) (M' := mX7_costsOn) dX7_pack_123 rfl ok_X7_costsOn mk_X7_costsOn ml_X7_148 ⟨Nat.le_of_ble_eq_true rfl, Nat.le_of_ble_eq_true rfl⟩ rfl (Nat.le_of_ble_eq_true rfl) (g_rv hM rfl) ⟨rfl, rfl⟩ (c_X7_costsOn hM (p := 0) (by decide) (j := r) (by omega)) ?_
                  rw [← (hG.1.1.is (k := r) (by omega)).cost.1]
                  refine st_goto (q := 130) dX7_pack_126 rfl ?_
                  refine st_iadd (q := 131) dX7_pack_130 rfl ?_
                  refine st_istore (q := 133) (L' := [_, _, _, _, _, _, _, _, _, _, _]) dX7_pack_131 rfl (Nat.le_of_ble_eq_true rfl) rfl ?_
                  refine st_iinc (q := 136) (L' := [_, _, _, _, _, _, _, _, _, _, _]) dX7_pack_133 rfl rfl (nI_succ _).symm (Nat.le_of_ble_eq_true rfl) rfl ?_
                  refine st_goto (q := 70) dX7_pack_136 rfl ?_
                  have ih9 := ih2 (r + 1) (by omega)
                  first
                    | exact absurd c_116 c_89
                    | exact absurd c_89 c_116
                    | (rw [fsT, csT, if_neg (show ¬ (nI i >>> (nI r &&& 31)) &&& 1 = 0 from by rw [c_89]; decide), if_neg (show ¬ (nI i >>> (nI r &&& 31)) &&& 1 = 0 from by rw [c_89]; decide)] at ih9; exact ih9)
                    | (rw [fsT, csT, if_pos (sh_01 (nI i) (by omega) c_89), if_pos (sh_01 (nI i) (by omega) c_89)] at ih9; exact ih9)
              · refine st_aload_n (q := 93) dX7_pack_92 rfl rfl rfl ?_
                refine st_iconst (q := 94) dX7_pack_93 rfl ic_0 ?_
                refine st_iload (q := 96) dX7_pack_94 rfl rfl ?_
                refine sp_V2 (q := 99) (M' := mX7_fillsOn) dX7_pack_96 rfl ok_X7_fillsOn mk_X7_fillsOn ml_X7_145 ⟨Nat.le_of_ble_eq_true rfl, Nat.le_of_ble_eq_true rfl⟩ rfl (Nat.le_of_ble_eq_true rfl) (g_rv hM rfl) ⟨rfl, rfl⟩ (c_X7_fillsOn hM (p := 0) (by decide) (j := r) (by omega)) ?_
                rw [← (hG.1.1.is (k := r) (by omega)).fill.1]
                refine st_goto (q := 103) dX7_pack_99 rfl ?_
                refine st_iadd (q := 104) dX7_pack_103 rfl ?_
                refine st_istore (q := 106) (L' := [_, _, _, _, _, _, _, _, _, _, _]) dX7_pack_104 rfl (Nat.le_of_ble_eq_true rfl) rfl ?_
                refine st_iload (q := 108) dX7_pack_106 rfl rfl ?_
                refine st_iload (q := 110) dX7_pack_108 rfl rfl ?_
                refine st_iload (q := 112) dX7_pack_110 rfl rfl ?_
                refine st_ishr (q := 113) dX7_pack_112 rfl ?_
                refine st_iconst (q := 114) dX7_pack_113 rfl ic_1 ?_
                refine st_iand (q := 115) dX7_pack_114 rfl ?_
                refine st_iconst (q := 116) dX7_pack_115 rfl ic_1 ?_
                refine st_icmp_ne (q := 119) (tgt := 129) dX7_pack_116 rfl rfl (fun c_116 => ?_) (fun c_116 => ?_)
                · refine st_iconst (q := 130) dX7_pack_129 rfl ic_0 ?_
                  refine st_iadd (q := 131) dX7_pack_130 rfl ?_
                  refine st_istore (q := 133) (L' := [_, _, _, _, _, _, _, _, _, _, _]) dX7_pack_131 rfl (Nat.le_of_ble_eq_true rfl) rfl ?_
                  refine st_iinc (q := 136) (L' := [_, _, _, _, _, _, _, _, _, _, _]) dX7_pack_133 rfl rfl (nI_succ _).symm (Nat.le_of_ble_eq_true rfl) rfl ?_
                  refine st_goto (q := 70) dX7_pack_136 rfl ?_
                  have ih9 := ih2 (r + 1) (by omega)
                  first
                    | exact absurd c_116 c_89
                    | exact absurd c_89 c_116
                    | (rw [fsT, csT, if_neg (show ¬ (nI i >>> (nI r &&& 31)) &&& 1 = 0 from by rw [c_89]; decide), if_neg (show ¬ (nI i >>> (nI r &&& 31)) &&& 1 = 0 from by rw [c_89]; decide)] at ih9; exact ih9)
                    | (rw [fsT, csT, if_pos (sh_01 (nI i) (by omega) c_89), if_pos (sh_01 (nI i) (by omega) c_89)] at ih9; exact ih9)
                · refine st_aload_n (q := 120) dX7_pack_119 rfl rfl rfl ?_
                  refine st_iconst (q := 121) dX7_pack_120 rfl ic_0 ?_
                  refine st_iload (q := 123) dX7_pack_121 rfl rfl ?_
                  refine sp_V2 (q := 126) (M' := mX7_costsOn) dX7_pack_123 rfl ok_X7_costsOn mk_X7_costsOn ml_X7_148 ⟨Nat.le_of_ble_eq_true rfl, Nat.le_of_ble_eq_true rfl⟩ rfl (Nat.le_of_ble_eq_true rfl) (g_rv hM rfl) ⟨rfl, rfl⟩ (c_X7_costsOn hM (p := 0) (by decide) (j := r) (by omega)) ?_
                  rw [← (hG.1.1.is (k := r) (by omega)).cost.1]
                  refine st_goto (q := 130) dX7_pack_126 rfl ?_
                  refine st_iadd (q := 131) dX7_pack_130 rfl ?_
                  refine st_istore (q := 133) (L' := [_, _, _, _, _, _, _, _, _, _, _]) dX7_pack_131 rfl (Nat.le_of_ble_eq_true rfl) rfl ?_
                  refine st_iinc (q := 136) (L' := [_, _, _, _, _, _, _, _, _, _, _]) dX7_pack_133 rfl rfl (nI_succ _).symm (Nat.le_of_ble_eq_true rfl) rfl ?_
                  refine st_goto (q := 70) dX7_pack_136 rfl ?_
                  have ih9 := ih2 (r + 1) (by omega)
                  first
                    | exact absurd c_116 c_89
                    | exact absurd c_89 c_116
                    | (rw [fsT, csT, if_neg (show ¬ (nI i >>> (nI r &&& 31)) &&& 1 = 0 from by rw [c_89]; decide), if_neg (show ¬ (nI i >>> (nI r &&& 31)) &&& 1 = 0 from by rw [c_89]; decide)] at ih9; exact ih9)
                    | (rw [fsT, csT, if_pos (sh_01 (nI i) (by omega) c_89), if_pos (sh_01 (nI i) (by omega) c_89)] at ih9; exact ih9)
          exact inn nt 0 (by omega)
      have lp9 := lp (2 ^ nt) 0 (by omega) w S f none none none hM hA hG hF
      rw [show fsT T (pmF T nt j (tkI T (nI j) nt) 0).2 nt = 0 from fs_0 nt hN8] at lp9
      exact lp9
    · refine st_iconst (q := 21) dX7_pack_20 rfl ic_m1 ?_
      refine st_ireturn dX7_pack_21 rfl ?_
      first
        | exact ⟨by rw [packS, if_neg (by rw [← hG.2.1, zI_0.mp c_5]; decide)], rfl, ⟨_, _, hM, hA⟩, hF⟩
        | exact ⟨by rw [packS, if_pos (by rw [← hG.2.1]; exact zI_1.mp c_5), if_neg (by rw [zI_0.mp c_17]; decide)], rfl, ⟨_, _, hM, hA⟩, hF⟩
