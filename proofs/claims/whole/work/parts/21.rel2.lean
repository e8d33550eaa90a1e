section REL2
variable {T : gT} {f : Nat → Int32} {p nh nt : Nat}
theorem RP.is_chg {T' : gT} {f' : Nat → Int32} (h : RP T f p nh nt) (hT : ∀ g, g ≠ 11 → g ≠ 12 → g ≠ 17 → T' g = T g) (hf : ∀ j, ¬ (p + 52 ≤ j ∧ j < p + 60) → j ≠ p + 70 → f' j = f j)
    (h52 : ∀ i, i < nt → f' (p + 52 + i) = 0 ∨ f' (p + 52 + i) = 1 ∨ f' (p + 52 + i) = 2) (b11 : RB (T' 11 0) nt (fun k => decide (f' (p + 52 + k) = 1))) (b12 : RB (T' 12 0) nt (fun k => decide (f' (p + 52 + k) = 2)))
    (so : T' 17 0 = f' (p + 70) ∧ rg (T' 17 0) 0 999) : RP T' f' p nh nt := by
  have hnh := h.hnh
  have hnt := h.hnt
  have t : ∀ g, g ≠ 11 → g ≠ 12 → g ≠ 17 → T' g = T g := hT
  refine ⟨hnh, hnt, by rw [t 0 (by decide) (by decide) (by decide)]; exact h.e0, by rw [t 6 (by decide) (by decide) (by decide)]; exact h.e6, fun k hk => ?_, fun k hk => ?_, fun k hk => ?_, b11, b12, fun d hd => ?_, ?_, ?_, ?_, so.1, so.2⟩
  · have := h.hs hk
    unfold RH at *
    rw [t 1 (by decide) (by decide) (by decide), t 2 (by decide) (by decide) (by decide), t 3 (by decide) (by decide) (by decide), t 4 (by decide) (by decide) (by decide), hf (p + k) (by omega) (by omega), hf (p + 4 + k) (by omega) (by omega), hf (p + 8 + k) (by omega) (by omega), hf (p + 12 + k) (by omega) (by omega), hf (p + 16 + k) (by omega) (by omega)]
    exact this
  · have := h.is hk
    unfold RI at *
    rw [t 7 (by decide) (by decide) (by decide), t 8 (by decide) (by decide) (by decide), t 9 (by decide) (by decide) (by decide), t 10 (by decide) (by decide) (by decide), hf (p + 20 + k) (by omega) (by omega), hf (p + 28 + k) (by omega) (by omega), hf (p + 36 + k) (by omega) (by omega), hf (p + 44 + k) (by omega) (by omega)]
    exact ⟨this.1, this.2.1, this.2.2.1, this.2.2.2.1, this.2.2.2.2.1, this.2.2.2.2.2.1, this.2.2.2.2.2.2.1, this.2.2.2.2.2.2.2.1, h52 k hk⟩
  · rw [t 5 (by decide) (by decide) (by decide), h.b5 k hk]
    by_cases z : k < nh
    · simp only [hf (p + 16 + k) (by omega) (by omega)]
    · simp [z]
  · rw [t 13 (by decide) (by decide) (by decide), hf (p + 60 + d) (by omega) (by omega)]; exact h.ri hd
  · rw [t 15 (by decide) (by decide) (by decide), hf (p + 68) (by omega) (by omega)]; exact h.lv.1
  · rw [t 15 (by decide) (by decide) (by decide)]; exact h.lv.2
  · rw [t 16 (by decide) (by decide) (by decide), hf (p + 69) (by omega) (by omega)]; exact h.da
theorem loseT_11 {k : Nat} : loseT T k 11 0 = T 11 0 &&& ((1 <<< (nI k &&& 31)) ^^^ (-1)) := rfl
theorem loseT_12 {k : Nat} : loseT T k 12 0 = T 12 0 ||| 1 <<< (nI k &&& 31) := rfl
theorem loseT_17 (h : RP T f p nh nt) {k : Nat} (hk : k < nt) : (loseT T k 17 0).toInt = min 999 ((T 17 0).toInt + (costI (T 7 k) (T 10 k)).toInt) := by
  have e : loseT T k 17 0 = if T 17 0 + costI (T 7 k) (T 10 k) < 999 then T 17 0 + costI (T 7 k) (T 10 k) else 999 := rfl
  have hc := (h.is hk).cost.2
  have hs := h.so.2
  unfold rg at hs hc
  have ha : (T 17 0 + costI (T 7 k) (T 10 k)).toInt = (T 17 0).toInt + (costI (T 7 k) (T 10 k)).toInt := ti_add (by omega) (by omega)
  rw [e]
  by_cases z : T 17 0 + costI (T 7 k) (T 10 k) < 999
  · rw [if_pos z, ha]
    rw [Int32.lt_iff_toInt_lt, ha, ti999] at z
    omega
  · rw [if_neg z, ti999]
    rw [Int32.lt_iff_toInt_lt, ha, ti999] at z
    omega
theorem losM_70 (h : RP T f p nh nt) {k : Nat} (hk : k < nt) : (losM f p k (p + 70)).toInt = min 999 ((f (p + 70)).toInt + (costI (T 7 k) (T 10 k)).toInt) := by
  have hc := (h.is hk).cost
  have hs := h.so
  unfold rg at hc hs
  rw [losM, pk_us, ← hc.1, ← hs.1]
  have ha : (T 17 0 + costI (T 7 k) (T 10 k)).toInt = (T 17 0).toInt + (costI (T 7 k) (T 10 k)).toInt := ti_add (by omega) (by omega)
  by_cases z : T 17 0 + costI (T 7 k) (T 10 k) ≤ 999
  · rw [if_pos z, ha]
    rw [Int32.le_iff_toInt_le, ha, ti999] at z
    omega
  · rw [if_neg z, ti999]
    rw [Int32.le_iff_toInt_le, ha, ti999] at z
    omega
theorem RP.lose1 (h : RP T f p nh nt) {k : Nat} (hk : k < nt) : RP (loseT T k) (losM f p k) p nh nt := by
  have hnt := h.hnt
  have e52 : ∀ i, losM f p k (p + 52 + i) = if i = k then 2 else if p + 52 + i = p + 70 then losM f p k (p + 70) else f (p + 52 + i) := by
    intro i
    by_cases z : i = k
    · subst z; rw [if_pos rfl, losM, pk_un (by omega), pk_us]
    · rw [if_neg z]
      by_cases y : p + 52 + i = p + 70
      · rw [if_pos y, y]
      · rw [if_neg y, losM_n (by omega) y]
  refine h.is_chg (fun g h1 h2 h3 => loseT_n h1 h2 h3) (fun j h1 h2 => losM_n (by omega) h2) (fun i hi => ?_) (fun j hj => ?_) (fun j hj => ?_) ?_
  · rw [e52]
    by_cases z : i = k
    · rw [if_pos z]; exact Or.inr (Or.inr rfl)
    · rw [if_neg z, if_neg (by omega)]; exact (h.is hi).2.2.2.2.2.2.2.2
  · rw [loseT_11, b_and, bt_not _ hj, bt_shl1 (by omega) hj, h.b11 j hj]
    dsimp only
    by_cases y : j < nt
    · rw [e52]
      by_cases z : j = k
      · subst z; simp [y]
      · rw [if_neg z, if_neg (by omega)]; simp [y, z]
    · simp [y]
  · rw [loseT_12, b_or, bt_shl1 (by omega) hj, h.b12 j hj]
    dsimp only
    by_cases y : j < nt
    · rw [e52]
      by_cases z : j = k
      · subst z; simp [y]
      · rw [if_neg z, if_neg (by omega)]; simp [y, z]
    · have z : ¬ j = k := by omega
      simp [y, z]
  · have a := loseT_17 h hk
    have b := losM_70 h hk
    have hc := (h.is hk).cost.2
    have hs := h.so
    unfold rg at hc hs
    rw [hs.1] at a
    refine ⟨Int32.toInt_inj.mp (a.trans b.symm), ?_⟩
    unfold rg
    rw [a]
    rw [hs.1] at hs
    omega
-- all that are out are lost
theorem ths_bt (h : Int32) : ∀ k, k ≤ 8 → ∀ j, j < 32 → bt (thsT T h k) j = (decide (j < k) && decide (T 8 j = h))
  | 0, _, j, _ => by rw [thsT, b_0]; simp
  | k + 1, hk, j, hj => by
    rw [thsT, b_or, ths_bt h k (by omega) j hj]
    by_cases z : j = k
    · subst z
      by_cases a : T 8 j = h
      · rw [if_pos a, bt_shl1 (by omega) hj]; simp [a]
      · rw [if_neg a, b_0]; simp [a]
    · have e : decide (j < k + 1) = decide (j < k) := by
        by_cases y : j < k
        · simp [y]; omega
        · have : ¬ j < k + 1 := by omega
          simp [y, this]
      rw [e]
      by_cases a : T 8 k = h
      · rw [if_pos a, bt_shl1 (by omega) hj]; simp [z]
      · rw [if_neg a, b_0]; simp
theorem RP.wh0 (hr : RP T f p nh nt) {i : Nat} (hi : i < nt) : whI T (nI i) = 0 ↔ f (p + 52 + i) = 0 := by
  unfold whI
  rw [hr.gone hi, hr.in_ hi]
  rcases (hr.is hi).2.2.2.2.2.2.2.2 with z | z | z
  · rw [z]; decide
  · rw [z]; decide
  · rw [z]; decide
theorem RP.loseOut (hr : RP T f p nh nt) (h : Int32) : ∀ i, i ≤ nt → RP (loT T h i) (dlM f p h i) p nh nt
  | 0, _ => hr
  | i + 1, hi => by
    have ih := RP.loseOut hr h i (by omega)
    have i8 := (ih.is (k := i) (by omega)).2.1
    rw [loT, dlM, i8]
    by_cases a : dlM f p h i (p + 28 + i) = h
    · rw [if_pos a, if_pos a]
      by_cases b : dlM f p h i (p + 52 + i) = 0
      · rw [if_pos b, if_pos ((ih.wh0 (by omega)).mpr b)]
        exact ih.lose1 (by omega)
      · rw [if_neg b, if_neg (fun z => b ((ih.wh0 (by omega)).mp z))]
        exact ih
    · rw [if_neg a, if_neg a]
      exact ih
-- what is over is lost
theorem flw_id {h : Int32} {hj : Nat} (hf : fldM f p h nt ≤ f (p + 4 + hj)) : ∀ k, flwM p h hj nt k f = f
  | 0 => rfl
  | k + 1 => by
    rw [flwM]
    split
    · split
      · first | (rw [if_pos hf]; exact flw_id hf k) | exact flw_id hf k
      · exact flw_id hf k
    · exact flw_id hf k
theorem i32_ac (a x b : Int32) : (a - x) + b = a + b - x := by rw [Int32.sub_eq_add_neg, Int32.sub_eq_add_neg, Int32.add_assoc, Int32.add_comm (-x) b, ← Int32.add_assoc]
theorem fd_lose (hr : RP T f p nh nt) {h : Int32} {k : Nat} (hk : k < nt) (h1 : f (p + 52 + k) = 1) (h8 : T 8 k = h) : ∀ m, m ≤ nt → fdT (loseT T k) h m = if k < m then fdT T h m - fillI (T 7 k) (T 9 k) else fdT T h m
  | 0, _ => by rw [fdT, fdT, if_neg (by omega)]
  | m + 1, hm => by
    have hnt := hr.hnt
    have ih := fd_lose hr hk h1 h8 m (by omega)
    have e : ∀ g, g ≠ 11 → g ≠ 12 → g ≠ 17 → loseT T k g = T g := fun g a b c => loseT_n a b c
    rw [fdT, fdT, ih, e 8 (by decide) (by decide) (by decide), e 7 (by decide) (by decide) (by decide), e 9 (by decide) (by decide) (by decide)]
    have hbit : btI (loseT T k 11 0) (nI m) = (btI (T 11 0) (nI m) && !decide (m = k)) := by
      rw [btI_bt _ (by omega), btI_bt _ (by omega), loseT_11, b_and, bt_not _ (by omega), bt_shl1 (by omega) (by omega)]
    rw [hbit]
    by_cases z : m = k
    · subst z
      rw [if_neg (Nat.lt_irrefl m), if_pos (Nat.lt_succ_self m), if_pos h8, if_pos h8, hr.in_ hk, h1]
      simp [Int32.add_sub_cancel]
    · have hb2 : (btI (T 11 0) (nI m) && !decide (m = k)) = btI (T 11 0) (nI m) := by simp [z]
      rw [hb2]
      by_cases y : k < m
      · rw [if_pos y, if_pos (show k < m + 1 by omega), i32_ac]
      · rw [if_neg y, if_neg (show ¬ k < m + 1 by omega)]
theorem lw_rel {hj : Nat} (hh : hj < nh) : ∀ (k : Nat) (T : gT) (f : Nat → Int32) (fv : Int32), RP T f p nh nt → k ≤ nt → fv = fdT T (nI hj) nt → RP (lwT (nI hj) hj k T fv) (flwM p (nI hj) hj nt k f) p nh nt
  | 0, T, f, fv, hr, _, _ => hr
  | k + 1, T, f, fv, hr, hk, hfv => by
    have hnt := hr.hnt
    have e2 := (hr.hs hh).2.1
    have ef := fd_eq hr (nI hj) nt (Nat.le_refl _)
    by_cases z : fv ≤ T 2 hj
    · rw [lwT, if_pos z, flw_id (by rw [← ef, ← e2, ← hfv]; exact z)]
      exact hr
    · have zf : ¬ fldM f p (nI hj) nt ≤ f (p + 4 + hj) := by rw [← ef, ← e2, ← hfv]; exact z
      have i8 := (hr.is (k := k) (by omega)).2.1
      rw [lwT, if_neg z, flwM]
      rw [i8]
      by_cases a : f (p + 28 + k) = nI hj
      · rw [if_pos a, if_pos a]
        by_cases b : f (p + 52 + k) = 1
        · rw [if_pos b, if_neg zf, if_pos (by rw [hr.in_ (by omega), b]; decide)]
          refine lw_rel hh k _ _ _ (hr.lose1 (by omega)) (by omega) ?_
          rw [fd_lose hr (by omega) b (by rw [i8]; exact a) nt (Nat.le_refl _), if_pos (by omega), hfv]
        · rw [if_neg b, if_neg (by rw [hr.in_ (by omega)]; simp [b])]
          exact lw_rel hh k T f fv hr (by omega) hfv
      · rw [if_neg a, if_neg a]
        exact lw_rel hh k T f fv hr (by omega) hfv
end REL2
