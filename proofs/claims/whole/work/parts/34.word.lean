def splF (b : Nat → Int32) (f t i : Nat) : Bool := decide ((ev_sb i).length = t - f) && (List.range (ev_sb i).length).all (fun k => decide ((ev_sb i).getD k 0 = b (f + k)))
def wdF (b : Nat → Int32) (f t : Nat) : Nat → Nat → Nat
  | i, 0 => i
  | i, k + 1 => if splF b f t i = true then i else wdF b f t (i + 1) k
theorem nI_ne {a b : Nat} (ha : a < 2 ^ 31) (hb : b < 2 ^ 31) (h : a ≠ b) : ¬ nI a = nI b := fun z => h (by have := congrArg Int32.toNatClampNeg z; rw [nI_clamp ha, nI_clamp hb] at this; exact this)
theorem nI_ij {a b : Nat} (ha : a < 2 ^ 31) (hb : b < 2 ^ 31) (z : nI a = nI b) : a = b := by have := congrArg Int32.toNatClampNeg z; rw [nI_clamp ha, nI_clamp hb] at this; exact this
set_option maxRecDepth 100000 in
set_option maxHeartbeats 4000000 in
theorem c_X1_spellingOf {E : ev_E} {n : Nat} {w : ev_W} {i : Nat} (hi : i < 8) : Ct E mX1_spellingOf [.int (nI i)] n w (ev_is (some (.ref (1100 + i))) n w) := by
  refine Ct.of 0 (by decide) (Nat.le_of_ble_eq_true rfl) rfl ?_
  refine st_iload_n (q := 1) dX1_spellingOf_0 rfl rfl rfl ?_
  refine st_tabK 0 (v := 0) (tgt := 44) dX1_spellingOf_1 rfl rfl (by decide) (by decide) (fun c_1_0 => ?_) (fun c_1_0 t_1_0 => ?_)
  · refine st_ldcS (q := 46) dX1_spellingOf_44 rfl rfl (tx := "plain") (k := 1100) (List.mem_of_getElem? (i := 0) rfl) (by decide) ?_
    refine st_areturn dX1_spellingOf_46 rfl (by first | exact Or.inl ⟨_, rfl⟩ | exact Or.inr ⟨_, rfl⟩) ?_
    obtain rfl : i = 0 := nI_ij (by omega) (by decide) c_1_0
    exact ⟨rfl, rfl, rfl⟩
  refine st_tabK 1 (v := 1) (tgt := 47) dX1_spellingOf_1 rfl rfl (by decide) (by decide) (fun c_1_1 => ?_) (fun c_1_1 t_1_1 => ?_)
  · refine st_ldcS (q := 49) dX1_spellingOf_47 rfl rfl (tx := "piano") (k := 1101) (List.mem_of_getElem? (i := 1) rfl) (by decide) ?_
    refine st_areturn dX1_spellingOf_49 rfl (by first | exact Or.inl ⟨_, rfl⟩ | exact Or.inr ⟨_, rfl⟩) ?_
    obtain rfl : i = 1 := nI_ij (by omega) (by decide) c_1_1
    exact ⟨rfl, rfl, rfl⟩
  refine st_tabK 2 (v := 2) (tgt := 50) dX1_spellingOf_1 rfl rfl (by decide) (by decide) (fun c_1_2 => ?_) (fun c_1_2 t_1_2 => ?_)
  · refine st_ldcS (q := 52) dX1_spellingOf_50 rfl rfl (tx := "father") (k := 1102) (List.mem_of_getElem? (i := 2) rfl) (by decide) ?_
    refine st_areturn dX1_spellingOf_52 rfl (by first | exact Or.inl ⟨_, rfl⟩ | exact Or.inr ⟨_, rfl⟩) ?_
    obtain rfl : i = 2 := nI_ij (by omega) (by decide) c_1_2
    exact ⟨rfl, rfl, rfl⟩
  refine st_tabK 3 (v := 3) (tgt := 53) dX1_spellingOf_1 rfl rfl (by decide) (by decide) (fun c_1_3 => ?_) (fun c_1_3 t_1_3 => ?_)
  · refine st_ldcS (q := 55) dX1_spellingOf_53 rfl rfl (tx := "self") (k := 1103) (List.mem_of_getElem? (i := 3) rfl) (by decide) ?_
    refine st_areturn dX1_spellingOf_55 rfl (by first | exact Or.inl ⟨_, rfl⟩ | exact Or.inr ⟨_, rfl⟩) ?_
    obtain rfl : i = 3 := nI_ij (by omega) (by decide) c_1_3
    exact ⟨rfl, rfl, rfl⟩
  refine st_tabK 4 (v := 4) (tgt := 56) dX1_spellingOf_1 rfl rfl (by decide) (by decide) (fun c_1_4 => ?_) (fun c_1_4 t_1_4 => ?_)
  · refine st_ldcS (q := 58) dX1_spellingOf_56 rfl rfl (tx := "house") (k := 1104) (List.mem_of_getElem? (i := 4) rfl) (by decide) ?_
    refine st_areturn dX1_spellingOf_58 rfl (by first | exact Or.inl ⟨_, rfl⟩ | exact Or.inr ⟨_, rfl⟩) ?_
    obtain rfl : i = 4 := nI_ij (by omega) (by decide) c_1_4
    exact ⟨rfl, rfl, rfl⟩
  refine st_tabK 5 (v := 5) (tgt := 59) dX1_spellingOf_1 rfl rfl (by decide) (by decide) (fun c_1_5 => ?_) (fun c_1_5 t_1_5 => ?_)
  · refine st_ldcS (q := 61) dX1_spellingOf_59 rfl rfl (tx := "rise") (k := 1105) (List.mem_of_getElem? (i := 5) rfl) (by decide) ?_
    refine st_areturn dX1_spellingOf_61 rfl (by first | exact Or.inl ⟨_, rfl⟩ | exact Or.inr ⟨_, rfl⟩) ?_
    obtain rfl : i = 5 := nI_ij (by omega) (by decide) c_1_5
    exact ⟨rfl, rfl, rfl⟩
  refine st_tabK 6 (v := 6) (tgt := 62) dX1_spellingOf_1 rfl rfl (by decide) (by decide) (fun c_1_6 => ?_) (fun c_1_6 t_1_6 => ?_)
  · refine st_ldcS (q := 64) dX1_spellingOf_62 rfl rfl (tx := "wind") (k := 1106) (List.mem_of_getElem? (i := 6) rfl) (by decide) ?_
    refine st_areturn dX1_spellingOf_64 rfl (by first | exact Or.inl ⟨_, rfl⟩ | exact Or.inr ⟨_, rfl⟩) ?_
    obtain rfl : i = 6 := nI_ij (by omega) (by decide) c_1_6
    exact ⟨rfl, rfl, rfl⟩
  refine st_tableOut (tgt := 65) dX1_spellingOf_1 (by omega) rfl ?_
  refine st_ldcS (q := 67) dX1_spellingOf_65 rfl rfl (tx := "level") (k := 1107) (List.mem_of_getElem? (i := 7) rfl) (by decide) ?_
  refine st_areturn dX1_spellingOf_67 rfl (by first | exact Or.inl ⟨_, rfl⟩ | exact Or.inr ⟨_, rfl⟩) ?_
  obtain rfl : i = 7 := by
    rcases (by omega : i = 0 ∨ i = 1 ∨ i = 2 ∨ i = 3 ∨ i = 4 ∨ i = 5 ∨ i = 6 ∨ i = 7) with z | z | z | z | z | z | z | z
    · subst z; exact absurd rfl c_1_0
    · subst z; exact absurd rfl c_1_1
    · subst z; exact absurd rfl c_1_2
    · subst z; exact absurd rfl c_1_3
    · subst z; exact absurd rfl c_1_4
    · subst z; exact absurd rfl c_1_5
    · subst z; exact absurd rfl c_1_6
    · exact z
  exact ⟨rfl, rfl, rfl⟩
set_option maxRecDepth 100000 in
set_option maxHeartbeats 4000000 in
theorem c_X1_isSpelled {E : ev_E} {n : Nat} {w : ev_W} {R Tp : gT} (hR : RR R n w) (hTp : PR Tp 43 n w) {tl : Nat} (e1 : Tp 1 0 = nI tl) (ht : tl ≤ 160) {f t : Nat} (h1 : f ≤ t) (h2 : t ≤ tl) (e3 : R 3 0 = nI t) (e5 : R 5 0 = nI f) {i : Nat} (hi : i < 8) : Ct E mX1_isSpelled [.ref 42, .ref (1100 + i)] n w (ev_is (some (.int (zI (splF (Tp 0) f t i)))) n w) := by
  refine Ct.of 1 (by decide) (Nat.le_of_ble_eq_true rfl) rfl ?_
  have hl := (sb_ln i hi).2.1
  have lp : (ev_sb i).length = t - f → ∀ (k k9 : Nat), k9 + k = (ev_sb i).length → (∀ j, j < k9 → (ev_sb i).getD j 0 = Tp 0 (f + j)) → Ev E mX1_isSpelled 20 [some (.ref 42), some (.ref (1100 + i)), some (.int (nI k9))] [] n w (0, 0) (ev_is (some (.int (zI (splF (Tp 0) f t i)))) n w) := by
    intro hlen k
    induction k with
    | zero =>
      intro k9 hk hA
      obtain rfl : k9 = (ev_sb i).length := hk
      refine st_iload_n (q := 21) dX1_isSpelled_20 rfl rfl rfl ?_
      refine st_aload_n (q := 22) dX1_isSpelled_21 rfl rfl rfl ?_
      refine sp_V0 (q := 25) (M' := mJ0_length_8abf5) dX1_isSpelled_22 rfl ok_J0_length_8abf5 mk_J0_length_8abf5 ml_X1_183 ⟨Nat.le_of_ble_eq_true rfl, Nat.le_of_ble_eq_true rfl⟩ rfl (Nat.le_of_ble_eq_true rfl) (s_rv hi) ⟨rfl, rfl⟩ (c_J0_length_8abf5 hi) ?_
      refine st_icmp_ge (q := 28) (tgt := 58) dX1_isSpelled_25 rfl rfl (fun c_25 => ?_) (fun c_25 => False.elim (c_25 (Int32.le_refl _)))
      refine st_iconst (q := 59) dX1_isSpelled_58 rfl ic_1 ?_
      refine st_nreturn dX1_isSpelled_59 rfl (by rfl) ?_
      have e9 : splF (Tp 0) f t i = true := by
        rw [splF, Bool.and_eq_true, decide_eq_true_eq]
        exact ⟨hlen, List.all_eq_true.mpr (fun j hj => decide_eq_true (hA j (List.mem_range.mp hj)))⟩
      exact ⟨by rw [e9]; rfl, rfl, rfl⟩
    | succ k ih =>
      intro k9 hk hA
      refine st_iload_n (q := 21) dX1_isSpelled_20 rfl rfl rfl ?_
      refine st_aload_n (q := 22) dX1_isSpelled_21 rfl rfl rfl ?_
      refine sp_V0 (q := 25) (M' := mJ0_length_8abf5) dX1_isSpelled_22 rfl ok_J0_length_8abf5 mk_J0_length_8abf5 ml_X1_183 ⟨Nat.le_of_ble_eq_true rfl, Nat.le_of_ble_eq_true rfl⟩ rfl (Nat.le_of_ble_eq_true rfl) (s_rv hi) ⟨rfl, rfl⟩ (c_J0_length_8abf5 hi) ?_
      refine st_icmp_ge (q := 28) (tgt := 58) dX1_isSpelled_25 rfl rfl (fun c_25 => False.elim (absurd c_25 (nI_ge (a := k9) (b := (ev_sb i).length) (by omega) (by omega)))) (fun c_25 => ?_)
      refine st_aload_n (q := 29) dX1_isSpelled_28 rfl rfl rfl ?_
      refine st_iload_n (q := 30) dX1_isSpelled_29 rfl rfl rfl ?_
      refine sp_V1 (q := 33) (M' := mJ0_charAt_5068e) dX1_isSpelled_30 rfl ok_J0_charAt_5068e mk_J0_charAt_5068e ml_X1_187 ⟨Nat.le_of_ble_eq_true rfl, Nat.le_of_ble_eq_true rfl⟩ rfl (Nat.le_of_ble_eq_true rfl) (s_rv hi) ⟨rfl, rfl⟩ (c_J0_charAt_5068e hi (k := k9) (by omega)) ?_
      refine st_aload_n (q := 34) dX1_isSpelled_33 rfl rfl rfl ?_
      refine g_getO (q := 37) dX1_isSpelled_34 rfl fl_X1_12.g hR rfl ?_
      refine g_getA (q := 40) dX1_isSpelled_37 rfl fl_X1_145 hTp rfl ?_
      refine st_aload_n (q := 41) dX1_isSpelled_40 rfl rfl rfl ?_
      refine g_get (q := 44) dX1_isSpelled_41 rfl fl_X1_76.g hR rfl ?_
      refine st_iload_n (q := 45) dX1_isSpelled_44 rfl rfl rfl ?_
      refine st_iadd (q := 46) dX1_isSpelled_45 rfl ?_
      refine g_bald (q := 47) dX1_isSpelled_46 rfl gkX4 hTp (i := 0) rfl (by rw [e5, nI_add]; exact ev_ix_nI (j := f + k9) (by omega) (by decide)) ?_
      refine st_icmp_eq (q := 50) (tgt := 52) dX1_isSpelled_47 rfl rfl (fun c_47 => ?_) (fun c_47 => ?_)
      · refine st_iinc (q := 55) (L' := [_, _, _]) dX1_isSpelled_52 rfl rfl (nI_succ _).symm (Nat.le_of_ble_eq_true rfl) rfl ?_
        refine st_goto (q := 20) dX1_isSpelled_55 rfl ?_
        refine ih (k9 + 1) (by omega) (fun j hj => ?_)
        by_cases e : j = k9
        · subst e; exact c_47
        · exact hA j (by omega)
      · refine st_iconst (q := 51) dX1_isSpelled_50 rfl ic_0 ?_
        refine st_nreturn dX1_isSpelled_51 rfl (by rfl) ?_
        have e9 : splF (Tp 0) f t i = false := by
          rw [splF, Bool.and_eq_false_iff]
          exact Or.inr (List.all_eq_false.mpr ⟨k9, List.mem_range.mpr (by omega), by rw [decide_eq_true_eq]; exact c_47⟩)
        exact ⟨by rw [e9]; rfl, rfl, rfl⟩
  refine st_aload_n (q := 1) dX1_isSpelled_0 rfl rfl rfl ?_
  refine sp_V0 (q := 4) (M' := mJ0_length_8abf5) dX1_isSpelled_1 rfl ok_J0_length_8abf5 mk_J0_length_8abf5 ml_X1_183 ⟨Nat.le_of_ble_eq_true rfl, Nat.le_of_ble_eq_true rfl⟩ rfl (Nat.le_of_ble_eq_true rfl) (s_rv hi) ⟨rfl, rfl⟩ (c_J0_length_8abf5 hi) ?_
  refine st_aload_n (q := 5) dX1_isSpelled_4 rfl rfl rfl ?_
  refine g_get (q := 8) dX1_isSpelled_5 rfl fl_X1_32.g hR rfl ?_
  refine st_aload_n (q := 9) dX1_isSpelled_8 rfl rfl rfl ?_
  refine g_get (q := 12) dX1_isSpelled_9 rfl fl_X1_76.g hR rfl ?_
  refine st_isub (q := 13) dX1_isSpelled_12 rfl ?_
  refine st_icmp_eq (q := 16) (tgt := 18) dX1_isSpelled_13 rfl rfl (fun c_13 => ?_) (fun c_13 => ?_)
  · have hlen : (ev_sb i).length = t - f := nI_ij (by omega) (by omega) (by rw [← nI_sb h1, ← e3, ← e5]; exact c_13)
    refine st_iconst (q := 19) dX1_isSpelled_18 rfl ic_0 ?_
    refine st_istore_n (q := 20) (L' := [_, _, _]) dX1_isSpelled_19 rfl rfl (Nat.le_of_ble_eq_true rfl) rfl ?_
    exact lp hlen (ev_sb i).length 0 (by omega) (fun j hj => absurd hj (Nat.not_lt_zero j))
  · have hne : ¬ (ev_sb i).length = t - f := fun z => c_13 (by rw [e3, e5, nI_sb h1, z])
    refine st_iconst (q := 17) dX1_isSpelled_16 rfl ic_0 ?_
    refine st_nreturn dX1_isSpelled_17 rfl (by rfl) ?_
    have e9 : splF (Tp 0) f t i = false := by rw [splF, decide_eq_false hne]; rfl
    exact ⟨by rw [e9]; rfl, rfl, rfl⟩
def wdI (x : Nat) : Int32 := if x = 8 then -1 else nI x
theorem wdF_le {b : Nat → Int32} {f t : Nat} : ∀ k i, wdF b f t i k ≤ i + k
  | 0, i => Nat.le_refl _
  | k + 1, i => by
    rw [wdF]
    split
    · omega
    · have := wdF_le (b := b) (f := f) (t := t) k (i + 1); omega
set_option maxRecDepth 100000 in
set_option maxHeartbeats 4000000 in
theorem c_X1_wordHere {E : ev_E} {n : Nat} {w : ev_W} {R Tp : gT} (hR : RR R n w) (hTp : PR Tp 43 n w) {tl : Nat} (e1 : Tp 1 0 = nI tl) (ht : tl ≤ 160) {f t : Nat} (h1 : f ≤ t) (h2 : t ≤ tl) (e3 : R 3 0 = nI t) (e5 : R 5 0 = nI f) : Ct E mX1_wordHere [.ref 42] n w (ev_is (some (.int (wdI (wdF (Tp 0) f t 0 8)))) n w) := by
  refine Ct.of 1 (by decide) (Nat.le_of_ble_eq_true rfl) rfl ?_
  have lp : ∀ (k i : Nat), i + k = 8 → wdF (Tp 0) f t i k = wdF (Tp 0) f t 0 8 → Ev E mX1_wordHere 2 [some (.ref 42), some (.int (nI i))] [] n w (0, 0) (ev_is (some (.int (wdI (wdF (Tp 0) f t 0 8)))) n w) := by
    intro k
    induction k with
    | zero =>
      intro i hi he
      obtain rfl : i = 8 := hi
      refine st_iload_n (q := 3) dX1_wordHere_2 rfl rfl rfl ?_
      refine st_bipush (q := 5) dX1_wordHere_3 rfl bp_8 ?_
      refine st_icmp_ge (q := 8) (tgt := 27) dX1_wordHere_5 rfl rfl (fun c_5 => ?_) (fun c_5 => False.elim (c_5 (by decide)))
      refine st_iconst (q := 28) dX1_wordHere_27 rfl ic_m1 ?_
      refine st_ireturn dX1_wordHere_28 rfl ?_
      exact ⟨by rw [← he]; rfl, rfl, rfl⟩
    | succ k ih =>
      intro i hi he
      refine st_iload_n (q := 3) dX1_wordHere_2 rfl rfl rfl ?_
      refine st_bipush (q := 5) dX1_wordHere_3 rfl bp_8 ?_
      refine st_icmp_ge (q := 8) (tgt := 27) dX1_wordHere_5 rfl rfl (fun c_5 => False.elim (absurd c_5 (nI_ge (a := i) (b := 8) (by omega) (by omega)))) (fun c_5 => ?_)
      refine st_aload_n (q := 9) dX1_wordHere_8 rfl rfl rfl ?_
      refine st_iload_n (q := 10) dX1_wordHere_9 rfl rfl rfl ?_
      refine sp_S1 (q := 13) (M' := mX1_spellingOf) dX1_wordHere_10 rfl ok_X1_spellingOf mk_X1_spellingOf ml_X1_161 ⟨Nat.le_of_ble_eq_true rfl, Nat.le_of_ble_eq_true rfl⟩ rfl (Nat.le_of_ble_eq_true rfl) ⟨rfl, rfl⟩ (c_X1_spellingOf (i := i) (by omega)) ?_
      refine sp_V1 (q := 16) (M' := mX1_isSpelled) dX1_wordHere_13 rfl ok_X1_isSpelled mk_X1_isSpelled ml_X1_165 ⟨Nat.le_of_ble_eq_true rfl, Nat.le_of_ble_eq_true rfl⟩ rfl (Nat.le_of_ble_eq_true rfl) (g_rv hR rfl) ⟨rfl, rfl⟩ (c_X1_isSpelled hR hTp e1 ht h1 h2 e3 e5 (i := i) (by omega)) ?_
      refine st_if_eq (q := 19) (tgt := 21) dX1_wordHere_16 rfl rfl (fun c_16 => ?_) (fun c_16 => ?_)
      · refine st_iinc (q := 24) (L' := [_, _]) dX1_wordHere_21 rfl rfl (nI_succ _).symm (Nat.le_of_ble_eq_true rfl) rfl ?_
        refine st_goto (q := 2) dX1_wordHere_24 rfl ?_
        exact ih (i + 1) (by omega) (by rw [← he, wdF, if_neg (by rw [zI_0.mp c_16]; decide)])
      · refine st_iload_n (q := 20) dX1_wordHere_19 rfl rfl rfl ?_
        refine st_ireturn dX1_wordHere_20 rfl ?_
        exact ⟨by rw [← he, wdF, if_pos (zI_1.mp c_16), wdI, if_neg (by omega)], rfl, rfl⟩
  refine st_iconst (q := 1) dX1_wordHere_0 rfl ic_0 ?_
  refine st_istore_n (q := 2) (L' := [_, _]) dX1_wordHere_1 rfl rfl (Nat.le_of_ble_eq_true rfl) rfl ?_
  exact lp 8 0 (by omega) rfl
def mbF (wd : Nat) (wt lt : Int32) (nh nt : Nat) : Nat := if (wd = 6 ∧ ¬ wt = 0) ∨ (wd = 7 ∧ ¬ lt = 0) then 4 else if (wd = 4 ∧ 4 ≤ nh) ∨ (wd < 4 ∧ 8 ≤ nt) then 5 else 0
theorem nI_iff {a b : Nat} (ha : a < 2 ^ 31) (hb : b < 2 ^ 31) : nI a = nI b ↔ a = b := ⟨nI_ij ha hb, fun h => by rw [h]⟩
theorem nI_leiff {a b : Nat} (ha : a < 2 ^ 31) (hb : b < 2 ^ 31) : nI a ≤ nI b ↔ a ≤ b := by
  rw [Int32.le_iff_toInt_le, nI_toInt ha, nI_toInt hb]; omega
theorem nI_ltiff {a b : Nat} (ha : a < 2 ^ 31) (hb : b < 2 ^ 31) : nI a < nI b ↔ a < b := by
  rw [Int32.lt_iff_toInt_lt, nI_toInt ha, nI_toInt hb]; omega
set_option maxRecDepth 100000 in
set_option maxHeartbeats 4000000 in
theorem c_X1_mayBegin {E : ev_E} {n : Nat} {w : ev_W} {R : gT} (hR : RR R n w) {D : gT} (hQ : TR D 45 n w) {nh nt wd : Nat} (e0 : D 0 0 = nI nh) (hnh : nh ≤ 4) (e6 : D 6 0 = nI nt) (hnt : nt ≤ 8) (hwd : wd < 8) : Ct E mX1_mayBegin [.ref 42, .int (nI wd)] n w (fun a m u => m = n ∧ FrQ w u ∧ ((mbF wd (R 7 0) (R 8 0) nh nt = 0 ∧ a = some (.int 1) ∧ RR R n u) ∨ (¬ mbF wd (R 7 0) (R 8 0) nh nt = 0 ∧ a = some (.int 0) ∧ ∃ R', RR R' n u ∧ R' 10 0 = nI (mbF wd (R 7 0) (R 8 0) nh nt) ∧ R' 11 0 = R 5 0))) := by
  refine Ct.of 0 (by decide) (Nat.le_of_ble_eq_true rfl) rfl ?_
  have a6 : (nI wd = 6 ↔ wd = 6) := nI_iff (b := 6) (by omega) (by decide)
  have a7 : (nI wd = 7 ↔ wd = 7) := nI_iff (b := 7) (by omega) (by decide)
  have a4 : (nI wd = 4 ↔ wd = 4) := nI_iff (b := 4) (by omega) (by decide)
  have b4 : (4 ≤ nI wd ↔ 4 ≤ wd) := nI_leiff (a := 4) (by decide) (by omega)
  have bh : (4 ≤ D 0 0 ↔ 4 ≤ nh) := by rw [e0]; exact nI_leiff (a := 4) (by decide) (by omega)
  have bn : (D 6 0 < 8 ↔ nt < 8) := by rw [e6]; exact nI_ltiff (b := 8) (by omega) (by decide)
  have hF : FrQ w w := FrQ.rf
  refine st_iload_n (q := 1) dX1_mayBegin_0 rfl rfl rfl ?_
  refine st_bipush (q := 3) dX1_mayBegin_1 rfl bp_6 ?_
  refine st_icmp_ne (q := 6) (tgt := 13) dX1_mayBegin_3 rfl rfl (fun c_3 => ?_) (fun c_3 => ?_)
  · refine st_iload_n (q := 14) dX1_mayBegin_13 rfl rfl rfl ?_
    refine st_bipush (q := 16) dX1_mayBegin_14 rfl bp_7 ?_
    refine st_icmp_ne (q := 19) (tgt := 36) dX1_mayBegin_16 rfl rfl (fun c_16 => ?_) (fun c_16 => ?_)
    · refine st_iload_n (q := 37) dX1_mayBegin_36 rfl rfl rfl ?_
      refine st_iconst (q := 38) dX1_mayBegin_37 rfl ic_4 ?_
      refine st_icmp_ne (q := 41) (tgt := 52) dX1_mayBegin_38 rfl rfl (fun c_38 => ?_) (fun c_38 => ?_)
      · refine st_iload_n (q := 53) dX1_mayBegin_52 rfl rfl rfl ?_
        refine st_iconst (q := 54) dX1_mayBegin_53 rfl ic_4 ?_
        refine st_icmp_ge (q := 57) (tgt := 79) dX1_mayBegin_54 rfl rfl (fun c_54 => ?_) (fun c_54 => ?_)
        · refine st_iconst (q := 80) dX1_mayBegin_79 rfl ic_1 ?_
          refine st_nreturn dX1_mayBegin_80 rfl (by rfl) ?_
          have e9 : mbF wd (R 7 0) (R 8 0) nh nt = 0 := by
            unfold mbF
            rw [if_neg (by simp_all), if_neg (by simp_all <;> omega)]
          exact ⟨rfl, hF, Or.inl ⟨e9, rfl, hR⟩⟩
        · refine st_aload_n (q := 58) dX1_mayBegin_57 rfl rfl rfl ?_
          refine g_getO (q := 61) dX1_mayBegin_58 rfl fl_X1_21.g hR rfl ?_
          refine g_get (q := 64) dX1_mayBegin_61 rfl fl_X1_93.g hQ rfl ?_
          refine st_bipush (q := 66) dX1_mayBegin_64 rfl bp_8 ?_
          refine st_icmp_lt (q := 69) (tgt := 79) dX1_mayBegin_66 rfl rfl (fun c_66 => ?_) (fun c_66 => ?_)
          · refine st_iconst (q := 80) dX1_mayBegin_79 rfl ic_1 ?_
            refine st_nreturn dX1_mayBegin_80 rfl (by rfl) ?_
            have e9 : mbF wd (R 7 0) (R 8 0) nh nt = 0 := by
              unfold mbF
              rw [if_neg (by simp_all), if_neg (by simp_all <;> omega)]
            exact ⟨rfl, hF, Or.inl ⟨e9, rfl, hR⟩⟩
          · refine st_aload_n (q := 70) dX1_mayBegin_69 rfl rfl rfl ?_
            refine st_iconst (q := 71) dX1_mayBegin_70 rfl ic_5 ?_
            refine st_aload_n (q := 72) dX1_mayBegin_71 rfl rfl rfl ?_
            refine g_get (q := 75) dX1_mayBegin_72 rfl fl_X1_76.g hR rfl ?_
            refine sm_V2 (q := 78) (M' := mX1_refuse) dX1_mayBegin_75 rfl ok_X1_refuse mk_X1_refuse ml_X1_68 ⟨Nat.le_of_ble_eq_true rfl, Nat.le_of_ble_eq_true rfl⟩ rfl (Nat.le_of_ble_eq_true rfl) (g_rv hR rfl) ⟨rfl, rfl⟩ (c_X1_refuse hR) ?_
            intro _ n w h9 _
            obtain ⟨rfl, rfl, hR, hF_⟩ := h9
            replace hF := FrQ.tr hF hF_
            refine st_nreturn dX1_mayBegin_78 rfl (by rfl) ?_
            have e9 : mbF wd (R 7 0) (R 8 0) nh nt = 5 := by
              unfold mbF
              rw [if_neg (by simp_all), if_pos (by simp_all)]
            exact ⟨rfl, hF, Or.inr ⟨by rw [e9]; decide, rfl, _, hR, by rw [e9]; rfl, rfl⟩⟩
      · refine st_aload_n (q := 42) dX1_mayBegin_41 rfl rfl rfl ?_
        refine g_getO (q := 45) dX1_mayBegin_42 rfl fl_X1_21.g hR rfl ?_
        refine g_get (q := 48) dX1_mayBegin_45 rfl fl_X1_90.g hQ rfl ?_
        refine st_iconst (q := 49) dX1_mayBegin_48 rfl ic_4 ?_
        refine st_icmp_ge (q := 52) (tgt := 69) dX1_mayBegin_49 rfl rfl (fun c_49 => ?_) (fun c_49 => ?_)
        · refine st_aload_n (q := 70) dX1_mayBegin_69 rfl rfl rfl ?_
          refine st_iconst (q := 71) dX1_mayBegin_70 rfl ic_5 ?_
          refine st_aload_n (q := 72) dX1_mayBegin_71 rfl rfl rfl ?_
          refine g_get (q := 75) dX1_mayBegin_72 rfl fl_X1_76.g hR rfl ?_
          refine sm_V2 (q := 78) (M' := mX1_refuse) dX1_mayBegin_75 rfl ok_X1_refuse mk_X1_refuse ml_X1_68 ⟨Nat.le_of_ble_eq_true rfl, Nat.le_of_ble_eq_true rfl⟩ rfl (Nat.le_of_ble_eq_true rfl) (g_rv hR rfl) ⟨rfl, rfl⟩ (c_X1_refuse hR) ?_
          intro _ n w h9 _
          obtain ⟨rfl, rfl, hR, hF_⟩ := h9
          replace hF := FrQ.tr hF hF_
          refine st_nreturn dX1_mayBegin_78 rfl (by rfl) ?_
          have e9 : mbF wd (R 7 0) (R 8 0) nh nt = 5 := by
            unfold mbF
            rw [if_neg (by simp_all), if_pos (by simp_all)]
          exact ⟨rfl, hF, Or.inr ⟨by rw [e9]; decide, rfl, _, hR, by rw [e9]; rfl, rfl⟩⟩
        · refine st_iload_n (q := 53) dX1_mayBegin_52 rfl rfl rfl ?_
          refine st_iconst (q := 54) dX1_mayBegin_53 rfl ic_4 ?_
          refine st_icmp_ge (q := 57) (tgt := 79) dX1_mayBegin_54 rfl rfl (fun c_54 => ?_) (fun c_54 => ?_)
          · refine st_iconst (q := 80) dX1_mayBegin_79 rfl ic_1 ?_
            refine st_nreturn dX1_mayBegin_80 rfl (by rfl) ?_
            have e9 : mbF wd (R 7 0) (R 8 0) nh nt = 0 := by
              unfold mbF
              rw [if_neg (by simp_all), if_neg (by simp_all <;> omega)]
            exact ⟨rfl, hF, Or.inl ⟨e9, rfl, hR⟩⟩
          · refine st_aload_n (q := 58) dX1_mayBegin_57 rfl rfl rfl ?_
            refine g_getO (q := 61) dX1_mayBegin_58 rfl fl_X1_21.g hR rfl ?_
            refine g_get (q := 64) dX1_mayBegin_61 rfl fl_X1_93.g hQ rfl ?_
            refine st_bipush (q := 66) dX1_mayBegin_64 rfl bp_8 ?_
            refine st_icmp_lt (q := 69) (tgt := 79) dX1_mayBegin_66 rfl rfl (fun c_66 => ?_) (fun c_66 => ?_)
            · refine st_iconst (q := 80) dX1_mayBegin_79 rfl ic_1 ?_
              refine st_nreturn dX1_mayBegin_80 rfl (by rfl) ?_
              have e9 : mbF wd (R 7 0) (R 8 0) nh nt = 0 := by
                unfold mbF
                rw [if_neg (by simp_all), if_neg (by simp_all <;> omega)]
              exact ⟨rfl, hF, Or.inl ⟨e9, rfl, hR⟩⟩
            · refine st_aload_n (q := 70) dX1_mayBegin_69 rfl rfl rfl ?_
              refine st_iconst (q := 71) dX1_mayBegin_70 rfl ic_5 ?_
              refine st_aload_n (q := 72) dX1_mayBegin_71 rfl rfl rfl ?_
              refine g_get (q := 75) dX1_mayBegin_72 rfl fl_X1_76.g hR rfl ?_
              refine sm_V2 (q := 78) (M' := mX1_refuse) dX1_mayBegin_75 rfl ok_X1_refuse mk_X1_refuse ml_X1_68 ⟨Nat.le_of_ble_eq_true rfl, Nat.le_of_ble_eq_true rfl⟩ rfl (Nat.le_of_ble_eq_true rfl) (g_rv hR rfl) ⟨rfl, rfl⟩ (c_X1_refuse hR) ?_
              intro _ n w h9 _
              obtain ⟨rfl, rfl, hR, hF_⟩ := h9
              replace hF := FrQ.tr hF hF_
              refine st_nreturn dX1_mayBegin_78 rfl (by rfl) ?_
              have e9 : mbF wd (R 7 0) (R 8 0) nh nt = 5 := by
                unfold mbF
                rw [if_neg (by simp_all), if_pos (by simp_all)]
              exact ⟨rfl, hF, Or.inr ⟨by rw [e9]; decide, rfl, _, hR, by rw [e9]; rfl, rfl⟩⟩
    · refine st_aload_n (q := 20) dX1_mayBegin_19 rfl rfl rfl ?_
      refine g_get (q := 23) dX1_mayBegin_20 rfl fl_X1_40.g hR rfl ?_
      refine st_if_eq (q := 26) (tgt := 36) dX1_mayBegin_23 rfl rfl (fun c_23 => ?_) (fun c_23 => ?_)
      · refine st_iload_n (q := 37) dX1_mayBegin_36 rfl rfl rfl ?_
        refine st_iconst (q := 38) dX1_mayBegin_37 rfl ic_4 ?_
        refine st_icmp_ne (q := 41) (tgt := 52) dX1_mayBegin_38 rfl rfl (fun c_38 => ?_) (fun c_38 => ?_)
        · refine st_iload_n (q := 53) dX1_mayBegin_52 rfl rfl rfl ?_
          refine st_iconst (q := 54) dX1_mayBegin_53 rfl ic_4 ?_
          refine st_icmp_ge (q := 57) (tgt := 79) dX1_mayBegin_54 rfl rfl (fun c_54 => ?_) (fun c_54 => ?_)
          · refine st_iconst (q := 80) dX1_mayBegin_79 rfl ic_1 ?_
            refine st_nreturn dX1_mayBegin_80 rfl (by rfl) ?_
            have e9 : mbF wd (R 7 0) (R 8 0) nh nt = 0 := by
              unfold mbF
              rw [if_neg (by simp_all), if_neg (by simp_all <;> omega)]
            exact ⟨rfl, hF, Or.inl ⟨e9, rfl, hR⟩⟩
          · refine st_aload_n (q := 58) dX1_mayBegin_57 rfl rfl rfl ?_
            refine g_getO (q := 61) dX1_mayBegin_58 rfl fl_X1_21.g hR rfl ?_
            refine g_get (q := 64) dX1_mayBegin_61 rfl fl_X1_93.g hQ rfl ?_
            refine st_bipush (q := 66) dX1_mayBegin_64 rfl bp_8 ?_
            refine st_icmp_lt (q := 69) (tgt := 79) dX1_mayBegin_66 rfl rfl (fun c_66 => ?_) (fun c_66 => ?_)
            · refine st_iconst (q := 80) dX1_mayBegin_79 rfl ic_1 ?_
              refine st_nreturn dX1_mayBegin_80 rfl (by rfl) ?_
              have e9 : mbF wd (R 7 0) (R 8 0) nh nt = 0 := by
                unfold mbF
                rw [if_neg (by simp_all), if_neg (by simp_all <;> omega)]
              exact ⟨rfl, hF, Or.inl ⟨e9, rfl, hR⟩⟩
            · refine st_aload_n (q := 70) dX1_mayBegin_69 rfl rfl rfl ?_
              refine st_iconst (q := 71) dX1_mayBegin_70 rfl ic_5 ?_
              refine st_aload_n (q := 72) dX1_mayBegin_71 rfl rfl rfl ?_
              refine g_get (q := 75) dX1_mayBegin_72 rfl fl_X1_76.g hR rfl ?_
              refine sm_V2 (q := 78) (M' := mX1_refuse) dX1_mayBegin_75 rfl ok_X1_refuse mk_X1_refuse ml_X1_68 ⟨Nat.le_of_ble_eq_true rfl, Nat.le_of_ble_eq_true rfl⟩ rfl (Nat.le_of_ble_eq_true rfl) (g_rv hR rfl) ⟨rfl, rfl⟩ (c_X1_refuse hR) ?_
              intro _ n w h9 _
              obtain ⟨rfl, rfl, hR, hF_⟩ := h9
              replace hF := FrQ.tr hF hF_
              refine st_nreturn dX1_mayBegin_78 rfl (by rfl) ?_
              have e9 : mbF wd (R 7 0) (R 8 0) nh nt = 5 := by
                unfold mbF
                rw [if_neg (by simp_all), if_pos (by simp_all)]
              exact ⟨rfl, hF, Or.inr ⟨by rw [e9]; decide, rfl, _, hR, by rw [e9]; rfl, rfl⟩⟩
        · refine st_aload_n (q := 42) dX1_mayBegin_41 rfl rfl rfl ?_
          refine g_getO (q := 45) dX1_mayBegin_42 rfl fl_X1_21.g hR rfl ?_
          refine g_get (q := 48) dX1_mayBegin_45 rfl fl_X1_90.g hQ rfl ?_
          refine st_iconst (q := 49) dX1_mayBegin_48 rfl ic_4 ?_
          refine st_icmp_ge (q := 52) (tgt := 69) dX1_mayBegin_49 rfl rfl (fun c_49 => ?_) (fun c_49 => ?_)
          · refine st_aload_n (q := 70) dX1_mayBegin_69 rfl rfl rfl ?_
            refine st_iconst (q := 71) dX1_mayBegin_70 rfl ic_5 ?_
            refine st_aload_n (q := 72) dX1_mayBegin_71 rfl rfl rfl ?_
            refine g_get (q := 75) dX1_mayBegin_72 rfl fl_X1_76.g hR rfl ?_
            refine sm_V2 (q := 78) (M' := mX1_refuse) dX1_mayBegin_75 rfl ok_X1_refuse mk_X1_refuse ml_X1_68 ⟨Nat.le_of_ble_eq_true rfl, Nat.le_of_ble_eq_true rfl⟩ rfl (Nat.le_of_ble_eq_true rfl) (g_rv hR rfl) ⟨rfl, rfl⟩ (c_X1_refuse hR) ?_
            intro _ n w h9 _
            obtain ⟨rfl, rfl, hR, hF_⟩ := h9
            replace hF := FrQ.tr hF hF_
            refine st_nreturn dX1_mayBegin_78 rfl (by rfl) ?_
            have e9 : mbF wd (R 7 0) (R 8 0) nh nt = 5 := by
              unfold mbF
              rw [if_neg (by simp_all), if_pos (by simp_all)]
            exact ⟨rfl, hF, Or.inr ⟨by rw [e9]; decide, rfl, _, hR, by rw [e9]; rfl, rfl⟩⟩
          · refine st_iload_n (q := 53) dX1_mayBegin_52 rfl rfl rfl ?_
            refine st_iconst (q := 54) dX1_mayBegin_53 rfl ic_4 ?_
            refine st_icmp_ge (q := 57) (tgt := 79) dX1_mayBegin_54 rfl rfl (fun c_54 => ?_) (fun c_54 => ?_)
            · refine st_iconst (q := 80) dX1_mayBegin_79 rfl ic_1 ?_
              refine st_nreturn dX1_mayBegin_80 rfl (by rfl) ?_
              have e9 : mbF wd (R 7 0) (R 8 0) nh nt = 0 := by
                unfold mbF
                rw [if_neg (by simp_all), if_neg (by simp_all <;> omega)]
              exact ⟨rfl, hF, Or.inl ⟨e9, rfl, hR⟩⟩
            · refine st_aload_n (q := 58) dX1_mayBegin_57 rfl rfl rfl ?_
              refine g_getO (q := 61) dX1_mayBegin_58 rfl fl_X1_21.g hR rfl ?_
              refine g_get (q := 64) dX1_mayBegin_61 rfl fl_X1_93.g hQ rfl ?_
              refine st_bipush (q := 66) dX1_mayBegin_64 rfl bp_8 ?_
              refine st_icmp_lt (q := 69) (tgt := 79) dX1_mayBegin_66 rfl rfl (fun c_66 => ?_) (fun c_66 => ?_)
              · refine st_iconst (q := 80) dX1_mayBegin_79 rfl ic_1 ?_
                refine st_nreturn dX1_mayBegin_80 rfl (by rfl) ?_
                have e9 : mbF wd (R 7 0) (R 8 0) nh nt = 0 := by
                  unfold mbF
                  rw [if_neg (by simp_all), if_neg (by simp_all <;> omega)]
                exact ⟨rfl, hF, Or.inl ⟨e9, rfl, hR⟩⟩
              · refine st_aload_n (q := 70) dX1_mayBegin_69 rfl rfl rfl ?_
                refine st_iconst (q := 71) dX1_mayBegin_70 rfl ic_5 ?_
                refine st_aload_n (q := 72) dX1_mayBegin_71 rfl rfl rfl ?_
                refine g_get (q := 75) dX1_mayBegin_72 rfl fl_X1_76.g hR rfl ?_
                refine sm_V2 (q := 78) (M' := mX1_refuse) dX1_mayBegin_75 rfl ok_X1_refuse mk_X1_refuse ml_X1_68 ⟨Nat.le_of_ble_eq_true rfl, Nat.le_of_ble_eq_true rfl⟩ rfl (Nat.le_of_ble_eq_true rfl) (g_rv hR rfl) ⟨rfl, rfl⟩ (c_X1_refuse hR) ?_
                intro _ n w h9 _
                obtain ⟨rfl, rfl, hR, hF_⟩ := h9
                replace hF := FrQ.tr hF hF_
                refine st_nreturn dX1_mayBegin_78 rfl (by rfl) ?_
                have e9 : mbF wd (R 7 0) (R 8 0) nh nt = 5 := by
                  unfold mbF
                  rw [if_neg (by simp_all), if_pos (by simp_all)]
                exact ⟨rfl, hF, Or.inr ⟨by rw [e9]; decide, rfl, _, hR, by rw [e9]; rfl, rfl⟩⟩
      · refine st_aload_n (q := 27) dX1_mayBegin_26 rfl rfl rfl ?_
        refine st_iconst (q := 28) dX1_mayBegin_27 rfl ic_4 ?_
        refine st_aload_n (q := 29) dX1_mayBegin_28 rfl rfl rfl ?_
        refine g_get (q := 32) dX1_mayBegin_29 rfl fl_X1_76.g hR rfl ?_
        refine sm_V2 (q := 35) (M' := mX1_refuse) dX1_mayBegin_32 rfl ok_X1_refuse mk_X1_refuse ml_X1_68 ⟨Nat.le_of_ble_eq_true rfl, Nat.le_of_ble_eq_true rfl⟩ rfl (Nat.le_of_ble_eq_true rfl) (g_rv hR rfl) ⟨rfl, rfl⟩ (c_X1_refuse hR) ?_
        intro _ n w h9 _
        obtain ⟨rfl, rfl, hR, hF_⟩ := h9
        replace hF := FrQ.tr hF hF_
        refine st_nreturn dX1_mayBegin_35 rfl (by rfl) ?_
        have e9 : mbF wd (R 7 0) (R 8 0) nh nt = 4 := by
          unfold mbF
          rw [if_pos (by simp_all)]
        exact ⟨rfl, hF, Or.inr ⟨by rw [e9]; decide, rfl, _, hR, by rw [e9]; rfl, rfl⟩⟩
  · refine st_aload_n (q := 7) dX1_mayBegin_6 rfl rfl rfl ?_
    refine g_get (q := 10) dX1_mayBegin_7 rfl fl_X1_36.g hR rfl ?_
    refine st_if_ne (q := 13) (tgt := 26) dX1_mayBegin_10 rfl rfl (fun c_10 => ?_) (fun c_10 => ?_)
    · refine st_aload_n (q := 27) dX1_mayBegin_26 rfl rfl rfl ?_
      refine st_iconst (q := 28) dX1_mayBegin_27 rfl ic_4 ?_
      refine st_aload_n (q := 29) dX1_mayBegin_28 rfl rfl rfl ?_
      refine g_get (q := 32) dX1_mayBegin_29 rfl fl_X1_76.g hR rfl ?_
      refine sm_V2 (q := 35) (M' := mX1_refuse) dX1_mayBegin_32 rfl ok_X1_refuse mk_X1_refuse ml_X1_68 ⟨Nat.le_of_ble_eq_true rfl, Nat.le_of_ble_eq_true rfl⟩ rfl (Nat.le_of_ble_eq_true rfl) (g_rv hR rfl) ⟨rfl, rfl⟩ (c_X1_refuse hR) ?_
      intro _ n w h9 _
      obtain ⟨rfl, rfl, hR, hF_⟩ := h9
      replace hF := FrQ.tr hF hF_
      refine st_nreturn dX1_mayBegin_35 rfl (by rfl) ?_
      have e9 : mbF wd (R 7 0) (R 8 0) nh nt = 4 := by
        unfold mbF
        rw [if_pos (by simp_all)]
      exact ⟨rfl, hF, Or.inr ⟨by rw [e9]; decide, rfl, _, hR, by rw [e9]; rfl, rfl⟩⟩
    · refine st_iload_n (q := 14) dX1_mayBegin_13 rfl rfl rfl ?_
      refine st_bipush (q := 16) dX1_mayBegin_14 rfl bp_7 ?_
      refine st_icmp_ne (q := 19) (tgt := 36) dX1_mayBegin_16 rfl rfl (fun c_16 => ?_) (fun c_16 => ?_)
      · refine st_iload_n (q := 37) dX1_mayBegin_36 rfl rfl rfl ?_
        refine st_iconst (q := 38) dX1_mayBegin_37 rfl ic_4 ?_
        refine st_icmp_ne (q := 41) (tgt := 52) dX1_mayBegin_38 rfl rfl (fun c_38 => ?_) (fun c_38 => ?_)
        · refine st_iload_n (q := 53) dX1_mayBegin_52 rfl rfl rfl ?_
          refine st_iconst (q := 54) dX1_mayBegin_53 rfl ic_4 ?_
          refine st_icmp_ge (q := 57) (tgt := 79) dX1_mayBegin_54 rfl rfl (fun c_54 => ?_) (fun c_54 => ?_)
          · refine st_iconst (q := 80) dX1_mayBegin_79 rfl ic_1 ?_
            refine st_nreturn dX1_mayBegin_80 rfl (by rfl) ?_
            have e9 : mbF wd (R 7 0) (R 8 0) nh nt = 0 := by
              unfold mbF
              rw [if_neg (by simp_all), if_neg (by simp_all <;> omega)]
            exact ⟨rfl, hF, Or.inl ⟨e9, rfl, hR⟩⟩
          · refine st_aload_n (q := 58) dX1_mayBegin_57 rfl rfl rfl ?_
            refine g_getO (q := 61) dX1_mayBegin_58 rfl fl_X1_21.g hR rfl ?_
            refine g_get (q := 64) dX1_mayBegin_61 rfl fl_X1_93.g hQ rfl ?_
            refine st_bipush (q := 66) dX1_mayBegin_64 rfl bp_8 ?_
            refine st_icmp_lt (q := 69) (tgt := 79) dX1_mayBegin_66 rfl rfl (fun c_66 => ?_) (fun c_66 => ?_)
            · refine st_iconst (q := 80) dX1_mayBegin_79 rfl ic_1 ?_
              refine st_nreturn dX1_mayBegin_80 rfl (by rfl) ?_
              have e9 : mbF wd (R 7 0) (R 8 0) nh nt = 0 := by
                unfold mbF
                rw [if_neg (by simp_all), if_neg (by simp_all <;> omega)]
              exact ⟨rfl, hF, Or.inl ⟨e9, rfl, hR⟩⟩
            · refine st_aload_n (q := 70) dX1_mayBegin_69 rfl rfl rfl ?_
              refine st_iconst (q := 71) dX1_mayBegin_70 rfl ic_5 ?_
              refine st_aload_n (q := 72) dX1_mayBegin_71 rfl rfl rfl ?_
              refine g_get (q := 75) dX1_mayBegin_72 rfl fl_X1_76.g hR rfl ?_
              refine sm_V2 (q := 78) (M' := mX1_refuse) dX1_mayBegin_75 rfl ok_X1_refuse mk_X1_refuse ml_X1_68 ⟨Nat.le_of_ble_eq_true rfl, Nat.le_of_ble_eq_true rfl⟩ rfl (Nat.le_of_ble_eq_true rfl) (g_rv hR rfl) ⟨rfl, rfl⟩ (c_X1_refuse hR) ?_
              intro _ n w h9 _
              obtain ⟨rfl, rfl, hR, hF_⟩ := h9
              replace hF := FrQ.tr hF hF_
              refine st_nreturn dX1_mayBegin_78 rfl (by rfl) ?_
              have e9 : mbF wd (R 7 0) (R 8 0) nh nt = 5 := by
                unfold mbF
                rw [if_neg (by simp_all), if_pos (by simp_all)]
              exact ⟨rfl, hF, Or.inr ⟨by rw [e9]; decide, rfl, _, hR, by rw [e9]; rfl, rfl⟩⟩
        · refine st_aload_n (q := 42) dX1_mayBegin_41 rfl rfl rfl ?_
          refine g_getO (q := 45) dX1_mayBegin_42 rfl fl_X1_21.g hR rfl ?_
          refine g_get (q := 48) dX1_mayBegin_45 rfl fl_X1_90.g hQ rfl ?_
          refine st_iconst (q := 49) dX1_mayBegin_48 rfl ic_4 ?_
          refine st_icmp_ge (q := 52) (tgt := 69) dX1_mayBegin_49 rfl rfl (fun c_49 => ?_) (fun c_49 => ?_)
          · refine st_aload_n (q := 70) dX1_mayBegin_69 rfl rfl rfl ?_
            refine st_iconst (q := 71) dX1_mayBegin_70 rfl ic_5 ?_
            refine st_aload_n (q := 72) dX1_mayBegin_71 rfl rfl rfl ?_
            refine g_get (q := 75) dX1_mayBegin_72 rfl fl_X1_76.g hR rfl ?_
            refine sm_V2 (q := 78) (M' := mX1_refuse) dX1_mayBegin_75 rfl ok_X1_refuse mk_X1_refuse ml_X1_68 ⟨Nat.le_of_ble_eq_true rfl, Nat.le_of_ble_eq_true rfl⟩ rfl (Nat.le_of_ble_eq_true rfl) (g_rv hR rfl) ⟨rfl, rfl⟩ (c_X1_refuse hR) ?_
            intro _ n w h9 _
            obtain ⟨rfl, rfl, hR, hF_⟩ := h9
            replace hF := FrQ.tr hF hF_
            refine st_nreturn dX1_mayBegin_78 rfl (by rfl) ?_
            have e9 : mbF wd (R 7 0) (R 8 0) nh nt = 5 := by
              unfold mbF
              rw [if_neg (by simp_all), if_pos (by simp_all)]
            exact ⟨rfl, hF, Or.inr ⟨by rw [e9]; decide, rfl, _, hR, by rw [e9]; rfl, rfl⟩⟩
          · refine st_iload_n (q := 53) dX1_mayBegin_52 rfl rfl rfl ?_
            refine st_iconst (q := 54) dX1_mayBegin_53 rfl ic_4 ?_
            refine st_icmp_ge (q := 57) (tgt := 79) dX1_mayBegin_54 rfl rfl (fun c_54 => ?_) (fun c_54 => ?_)
            · refine st_iconst (q := 80) dX1_mayBegin_79 rfl ic_1 ?_
              refine st_nreturn dX1_mayBegin_80 rfl (by rfl) ?_
              have e9 : mbF wd (R 7 0) (R 8 0) nh nt = 0 := by
                unfold mbF
                rw [if_neg (by simp_all), if_neg (by simp_all <;> omega)]
              exact ⟨rfl, hF, Or.inl ⟨e9, rfl, hR⟩⟩
            · refine st_aload_n (q := 58) dX1_mayBegin_57 rfl rfl rfl ?_
              refine g_getO (q := 61) dX1_mayBegin_58 rfl fl_X1_21.g hR rfl ?_
              refine g_get (q := 64) dX1_mayBegin_61 rfl fl_X1_93.g hQ rfl ?_
              refine st_bipush (q := 66) dX1_mayBegin_64 rfl bp_8 ?_
              refine st_icmp_lt (q := 69) (tgt := 79) dX1_mayBegin_66 rfl rfl (fun c_66 => ?_) (fun c_66 => ?_)
              · refine st_iconst (q := 80) dX1_mayBegin_79 rfl ic_1 ?_
                refine st_nreturn dX1_mayBegin_80 rfl (by rfl) ?_
                have e9 : mbF wd (R 7 0) (R 8 0) nh nt = 0 := by
                  unfold mbF
                  rw [if_neg (by simp_all), if_neg (by simp_all <;> omega)]
                exact ⟨rfl, hF, Or.inl ⟨e9, rfl, hR⟩⟩
              · refine st_aload_n (q := 70) dX1_mayBegin_69 rfl rfl rfl ?_
                refine st_iconst (q := 71) dX1_mayBegin_70 rfl ic_5 ?_
                refine st_aload_n (q := 72) dX1_mayBegin_71 rfl rfl rfl ?_
                refine g_get (q := 75) dX1_mayBegin_72 rfl fl_X1_76.g hR rfl ?_
                refine sm_V2 (q := 78) (M' := mX1_refuse) dX1_mayBegin_75 rfl ok_X1_refuse mk_X1_refuse ml_X1_68 ⟨Nat.le_of_ble_eq_true rfl, Nat.le_of_ble_eq_true rfl⟩ rfl (Nat.le_of_ble_eq_true rfl) (g_rv hR rfl) ⟨rfl, rfl⟩ (c_X1_refuse hR) ?_
                intro _ n w h9 _
                obtain ⟨rfl, rfl, hR, hF_⟩ := h9
                replace hF := FrQ.tr hF hF_
                refine st_nreturn dX1_mayBegin_78 rfl (by rfl) ?_
                have e9 : mbF wd (R 7 0) (R 8 0) nh nt = 5 := by
                  unfold mbF
                  rw [if_neg (by simp_all), if_pos (by simp_all)]
                exact ⟨rfl, hF, Or.inr ⟨by rw [e9]; decide, rfl, _, hR, by rw [e9]; rfl, rfl⟩⟩
      · refine st_aload_n (q := 20) dX1_mayBegin_19 rfl rfl rfl ?_
        refine g_get (q := 23) dX1_mayBegin_20 rfl fl_X1_40.g hR rfl ?_
        refine st_if_eq (q := 26) (tgt := 36) dX1_mayBegin_23 rfl rfl (fun c_23 => ?_) (fun c_23 => ?_)
        · refine st_iload_n (q := 37) dX1_mayBegin_36 rfl rfl rfl ?_
          refine st_iconst (q := 38) dX1_mayBegin_37 rfl ic_4 ?_
          refine st_icmp_ne (q := 41) (tgt := 52) dX1_mayBegin_38 rfl rfl (fun c_38 => ?_) (fun c_38 => ?_)
          · refine st_iload_n (q := 53) dX1_mayBegin_52 rfl rfl rfl ?_
            refine st_iconst (q := 54) dX1_mayBegin_53 rfl ic_4 ?_
            refine st_icmp_ge (q := 57) (tgt := 79) dX1_mayBegin_54 rfl rfl (fun c_54 => ?_) (fun c_54 => ?_)
            · refine st_iconst (q := 80) dX1_mayBegin_79 rfl ic_1 ?_
              refine st_nreturn dX1_mayBegin_80 rfl (by rfl) ?_
              have e9 : mbF wd (R 7 0) (R 8 0) nh nt = 0 := by
                unfold mbF
                rw [if_neg (by simp_all), if_neg (by simp_all <;> omega)]
              exact ⟨rfl, hF, Or.inl ⟨e9, rfl, hR⟩⟩
            · refine st_aload_n (q := 58) dX1_mayBegin_57 rfl rfl rfl ?_
              refine g_getO (q := 61) dX1_mayBegin_58 rfl fl_X1_21.g hR rfl ?_
              refine g_get (q := 64) dX1_mayBegin_61 rfl fl_X1_93.g hQ rfl ?_
              refine st_bipush (q := 66) dX1_mayBegin_64 rfl bp_8 ?_
              refine st_icmp_lt (q := 69) (tgt := 79) dX1_mayBegin_66 rfl rfl (fun c_66 => ?_) (fun c_66 => ?_)
              · refine st_iconst (q := 80) dX1_mayBegin_79 rfl ic_1 ?_
                refine st_nreturn dX1_mayBegin_80 rfl (by rfl) ?_
                have e9 : mbF wd (R 7 0) (R 8 0) nh nt = 0 := by
                  unfold mbF
                  rw [if_neg (by simp_all), if_neg (by simp_all <;> omega)]
                exact ⟨rfl, hF, Or.inl ⟨e9, rfl, hR⟩⟩
              · refine st_aload_n (q := 70) dX1_mayBegin_69 rfl rfl rfl ?_
                refine st_iconst (q := 71) dX1_mayBegin_70 rfl ic_5 ?_
                refine st_aload_n (q := 72) dX1_mayBegin_71 rfl rfl rfl ?_
                refine g_get (q := 75) dX1_mayBegin_72 rfl fl_X1_76.g hR rfl ?_
                refine sm_V2 (q := 78) (M' := mX1_refuse) dX1_mayBegin_75 rfl ok_X1_refuse mk_X1_refuse ml_X1_68 ⟨Nat.le_of_ble_eq_true rfl, Nat.le_of_ble_eq_true rfl⟩ rfl (Nat.le_of_ble_eq_true rfl) (g_rv hR rfl) ⟨rfl, rfl⟩ (c_X1_refuse hR) ?_
                intro _ n w h9 _
                obtain ⟨rfl, rfl, hR, hF_⟩ := h9
                replace hF := FrQ.tr hF hF_
                refine st_nreturn dX1_mayBegin_78 rfl (by rfl) ?_
                have e9 : mbF wd (R 7 0) (R 8 0) nh nt = 5 := by
                  unfold mbF
                  rw [if_neg (by simp_all), if_pos (by simp_all)]
                exact ⟨rfl, hF, Or.inr ⟨by rw [e9]; decide, rfl, _, hR, by rw [e9]; rfl, rfl⟩⟩
          · refine st_aload_n (q := 42) dX1_mayBegin_41 rfl rfl rfl ?_
            refine g_getO (q := 45) dX1_mayBegin_42 rfl fl_X1_21.g hR rfl ?_
            refine g_get (q := 48) dX1_mayBegin_45 rfl fl_X1_90.g hQ rfl ?_
            refine st_iconst (q := 49) dX1_mayBegin_48 rfl ic_4 ?_
            refine st_icmp_ge (q := 52) (tgt := 69) dX1_mayBegin_49 rfl rfl (fun c_49 => ?_) (fun c_49 => ?_)
            · refine st_aload_n (q := 70) dX1_mayBegin_69 rfl rfl rfl ?_
              refine st_iconst (q := 71) dX1_mayBegin_70 rfl ic_5 ?_
              refine st_aload_n (q := 72) dX1_mayBegin_71 rfl rfl rfl ?_
              refine g_get (q := 75) dX1_mayBegin_72 rfl fl_X1_76.g hR rfl ?_
              refine sm_V2 (q := 78) (M' := mX1_refuse) dX1_mayBegin_75 rfl ok_X1_refuse mk_X1_refuse ml_X1_68 ⟨Nat.le_of_ble_eq_true rfl, Nat.le_of_ble_eq_true rfl⟩ rfl (Nat.le_of_ble_eq_true rfl) (g_rv hR rfl) ⟨rfl, rfl⟩ (c_X1_refuse hR) ?_
              intro _ n w h9 _
              obtain ⟨rfl, rfl, hR, hF_⟩ := h9
              replace hF := FrQ.tr hF hF_
              refine st_nreturn dX1_mayBegin_78 rfl (by rfl) ?_
              have e9 : mbF wd (R 7 0) (R 8 0) nh nt = 5 := by
                unfold mbF
                rw [if_neg (by simp_all), if_pos (by simp_all)]
              exact ⟨rfl, hF, Or.inr ⟨by rw [e9]; decide, rfl, _, hR, by rw [e9]; rfl, rfl⟩⟩
            · refine st_iload_n (q := 53) dX1_mayBegin_52 rfl rfl rfl ?_
              refine st_iconst (q := 54) dX1_mayBegin_53 rfl ic_4 ?_
              refine st_icmp_ge (q := 57) (tgt := 79) dX1_mayBegin_54 rfl rfl (fun c_54 => ?_) (fun c_54 => ?_)
              · refine st_iconst (q := 80) dX1_mayBegin_79 rfl ic_1 ?_
                refine st_nreturn dX1_mayBegin_80 rfl (by rfl) ?_
                have e9 : mbF wd (R 7 0) (R 8 0) nh nt = 0 := by
                  unfold mbF
                  rw [if_neg (by simp_all), if_neg (by simp_all <;> omega)]
                exact ⟨rfl, hF, Or.inl ⟨e9, rfl, hR⟩⟩
              · refine st_aload_n (q := 58) dX1_mayBegin_57 rfl rfl rfl ?_
                refine g_getO (q := 61) dX1_mayBegin_58 rfl fl_X1_21.g hR rfl ?_
                refine g_get (q := 64) dX1_mayBegin_61 rfl fl_X1_93.g hQ rfl ?_
                refine st_bipush (q := 66) dX1_mayBegin_64 rfl bp_8 ?_
                refine st_icmp_lt (q := 69) (tgt := 79) dX1_mayBegin_66 rfl rfl (fun c_66 => ?_) (fun c_66 => ?_)
                · refine st_iconst (q := 80) dX1_mayBegin_79 rfl ic_1 ?_
                  refine st_nreturn dX1_mayBegin_80 rfl (by rfl) ?_
                  have e9 : mbF wd (R 7 0) (R 8 0) nh nt = 0 := by
                    unfold mbF
                    rw [if_neg (by simp_all), if_neg (by simp_all <;> omega)]
                  exact ⟨rfl, hF, Or.inl ⟨e9, rfl, hR⟩⟩
                · refine st_aload_n (q := 70) dX1_mayBegin_69 rfl rfl rfl ?_
                  refine st_iconst (q := 71) dX1_mayBegin_70 rfl ic_5 ?_
                  refine st_aload_n (q := 72) dX1_mayBegin_71 rfl rfl rfl ?_
                  refine g_get (q := 75) dX1_mayBegin_72 rfl fl_X1_76.g hR rfl ?_
                  refine sm_V2 (q := 78) (M' := mX1_refuse) dX1_mayBegin_75 rfl ok_X1_refuse mk_X1_refuse ml_X1_68 ⟨Nat.le_of_ble_eq_true rfl, Nat.le_of_ble_eq_true rfl⟩ rfl (Nat.le_of_ble_eq_true rfl) (g_rv hR rfl) ⟨rfl, rfl⟩ (c_X1_refuse hR) ?_
                  intro _ n w h9 _
                  obtain ⟨rfl, rfl, hR, hF_⟩ := h9
                  replace hF := FrQ.tr hF hF_
                  refine st_nreturn dX1_mayBegin_78 rfl (by rfl) ?_
                  have e9 : mbF wd (R 7 0) (R 8 0) nh nt = 5 := by
                    unfold mbF
                    rw [if_neg (by simp_all), if_pos (by simp_all)]
                  exact ⟨rfl, hF, Or.inr ⟨by rw [e9]; decide, rfl, _, hR, by rw [e9]; rfl, rfl⟩⟩
        · refine st_aload_n (q := 27) dX1_mayBegin_26 rfl rfl rfl ?_
          refine st_iconst (q := 28) dX1_mayBegin_27 rfl ic_4 ?_
          refine st_aload_n (q := 29) dX1_mayBegin_28 rfl rfl rfl ?_
          refine g_get (q := 32) dX1_mayBegin_29 rfl fl_X1_76.g hR rfl ?_
          refine sm_V2 (q := 35) (M' := mX1_refuse) dX1_mayBegin_32 rfl ok_X1_refuse mk_X1_refuse ml_X1_68 ⟨Nat.le_of_ble_eq_true rfl, Nat.le_of_ble_eq_true rfl⟩ rfl (Nat.le_of_ble_eq_true rfl) (g_rv hR rfl) ⟨rfl, rfl⟩ (c_X1_refuse hR) ?_
          intro _ n w h9 _
          obtain ⟨rfl, rfl, hR, hF_⟩ := h9
          replace hF := FrQ.tr hF hF_
          refine st_nreturn dX1_mayBegin_35 rfl (by rfl) ?_
          have e9 : mbF wd (R 7 0) (R 8 0) nh nt = 4 := by
            unfold mbF
            rw [if_pos (by simp_all)]
          exact ⟨rfl, hF, Or.inr ⟨by rw [e9]; decide, rfl, _, hR, by rw [e9]; rfl, rfl⟩⟩
