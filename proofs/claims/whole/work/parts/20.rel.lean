theorem ti_add {a b : Int32} (h1 : -2147483648 ≤ a.toInt + b.toInt) (h2 : a.toInt + b.toInt < 2147483648) : (a + b).toInt = a.toInt + b.toInt := by
  rw [Int32.toInt_add]; exact Int.bmod_eq_of_le (by omega) (by omega)
theorem ti_sub {a b : Int32} (h1 : -2147483648 ≤ a.toInt - b.toInt) (h2 : a.toInt - b.toInt < 2147483648) : (a - b).toInt = a.toInt - b.toInt := by
  rw [Int32.toInt_sub]; exact Int.bmod_eq_of_le (by omega) (by omega)
def rg (x : Int32) (a b : Int) : Prop := a ≤ x.toInt ∧ x.toInt ≤ b
theorem rg_nI {x : Int32} {m : Nat} (h : rg x 0 m) : ∃ a, a ≤ m ∧ x = nI a := by
  obtain ⟨j, hj, rfl⟩ := nI_of (x := x) (by intro q; have := Int32.lt_iff_toInt_lt.mp q; simp at this; have := h.1; omega)
  have := h.2
  rw [nI_toInt hj] at this
  exact ⟨j, by omega, rfl⟩
theorem rg_of {a m : Nat} (h : a ≤ m) (hm : m < 2 ^ 31) : rg (nI a) 0 m := by
  unfold rg; rw [nI_toInt (by omega)]; omega
theorem ti_lit {n : Nat} (h : n < 2 ^ 31) : (OfNat.ofNat n : Int32).toInt = n := nI_toInt h
theorem ti0 : (0 : Int32).toInt = 0 := by decide
theorem ti4 : (4 : Int32).toInt = 4 := by decide
theorem ti20 : (20 : Int32).toInt = 20 := by decide
theorem ti99 : (99 : Int32).toInt = 99 := by decide
theorem ti999 : (999 : Int32).toInt = 999 := by decide
-- bits
theorem bt_1 : ∀ j, j < 32 → bt 1 j = decide (j = 0) := by decide +kernel
theorem bt_shl1 {k i : Nat} (hk : k < 32) (hi : i < 32) : bt (1 <<< (nI k &&& 31)) i = decide (i = k) := by
  rw [b_shl k hk 1 hi]
  by_cases h : k ≤ i
  · rw [bt_1 (i - k) (by omega)]
    by_cases e : i = k
    · subst e; simp
    · have : ¬ i - k = 0 := by omega
      simp [e, this]
  · have : ¬ i = k := by omega
    simp [h, this]
theorem and1_0 (y : Int32) : y &&& 1 = 0 ↔ bt y 0 = false := by
  constructor
  · intro h
    have := congrArg (fun z => bt z 0) h
    simp only [b_and, b_0, bt_1 0 (by decide)] at this
    simpa using this
  · intro h
    refine b_ext (fun i hi => ?_)
    rw [b_and, b_0, bt_1 i hi]
    by_cases e : i = 0
    · subst e; rw [h]; rfl
    · simp [e]
theorem sh1_0 (x : Int32) {k : Nat} (hk : k < 32) : (x >>> (nI k &&& 31)) &&& 1 = 0 ↔ bt x k = false := by
  rw [and1_0, b_sshr k hk x (by decide), if_pos (by omega), Nat.add_zero]
theorem btI_bt (x : Int32) {k : Nat} (hk : k < 32) : btI x (nI k) = bt x k := by
  unfold btI
  cases h : bt x k with
  | true =>
    have : ¬ ((x >>> (nI k &&& 31)) &&& 1 = 0) := fun z => by rw [(sh1_0 x hk).mp z] at h; cases h
    simp [this]
  | false => simp [(sh1_0 x hk).mpr h]
theorem bt_not (x : Int32) {k : Nat} (hk : k < 32) : bt (x ^^^ (-1)) k = !bt x k := by rw [b_xor, b_m1 k hk]; cases bt x k <;> rfl
-- fill and cost
theorem fill_tab : ∀ a, a < 4 → ∀ b, b < 10 → fillI (nI a) (nI b) = fillM (nI a) (nI b) ∧ 0 ≤ (fillI (nI a) (nI b)).toInt ∧ (fillI (nI a) (nI b)).toInt ≤ 18 := by decide +kernel
theorem cost_tab : ∀ a, a < 4 → ∀ b, b < 10 → costI (nI a) (nI b) = costM (nI a) (nI b) ∧ 0 ≤ (costI (nI a) (nI b)).toInt ∧ (costI (nI a) (nI b)).toInt ≤ 28 := by decide +kernel
theorem fill_of {k s : Int32} (hk : rg k 0 3) (hs : rg s 0 9) : fillI k s = fillM k s ∧ rg (fillI k s) 0 18 := by
  obtain ⟨a, ha, rfl⟩ := rg_nI (m := 3) hk
  obtain ⟨b, hb, rfl⟩ := rg_nI (m := 9) hs
  exact ⟨(fill_tab a (by omega) b (by omega)).1, (fill_tab a (by omega) b (by omega)).2⟩
theorem cost_of {k s : Int32} (hk : rg k 0 3) (hs : rg s 0 9) : costI k s = costM k s ∧ rg (costI k s) 0 28 := by
  obtain ⟨a, ha, rfl⟩ := rg_nI (m := 3) hk
  obtain ⟨b, hb, rfl⟩ := rg_nI (m := 9) hs
  exact ⟨(cost_tab a (by omega) b (by omega)).1, (cost_tab a (by omega) b (by omega)).2⟩
-- the relation of a Terrace and a page
def RH (T : gT) (f : Nat → Int32) (p h : Nat) : Prop := T 1 h = f (p + h) ∧ T 2 h = f (p + 4 + h) ∧ T 3 h = f (p + 8 + h) ∧ T 4 h = f (p + 12 + h) ∧ rg (T 1 h) 0 20 ∧ rg (T 2 h) 0 40 ∧ rg (T 3 h) 0 3 ∧ rg (T 4 h) 0 99 ∧ (f (p + 16 + h) = 0 ∨ f (p + 16 + h) = 1)
def RI (T : gT) (f : Nat → Int32) (p nh i : Nat) : Prop := T 7 i = f (p + 20 + i) ∧ T 8 i = f (p + 28 + i) ∧ T 9 i = f (p + 36 + i) ∧ T 10 i = f (p + 44 + i) ∧ rg (T 7 i) 0 3 ∧ (∃ h, h < nh ∧ T 8 i = nI h) ∧ rg (T 9 i) 1 9 ∧ rg (T 10 i) 0 9 ∧ (f (p + 52 + i) = 0 ∨ f (p + 52 + i) = 1 ∨ f (p + 52 + i) = 2)
def RB (x : Int32) (m : Nat) (g : Nat → Bool) : Prop := ∀ k, k < 32 → bt x k = (decide (k < m) && g k)
def RP (T : gT) (f : Nat → Int32) (p nh nt : Nat) : Prop :=
  nh ≤ 4 ∧ nt ≤ 8 ∧ T 0 0 = nI nh ∧ T 6 0 = nI nt ∧ (∀ h, h < nh → RH T f p h) ∧ (∀ i, i < nt → RI T f p nh i) ∧
  RB (T 5 0) nh (fun k => decide (f (p + 16 + k) = 1)) ∧ RB (T 11 0) nt (fun k => decide (f (p + 52 + k) = 1)) ∧ RB (T 12 0) nt (fun k => decide (f (p + 52 + k) = 2)) ∧
  (∀ d, d < 7 → T 13 d = f (p + 60 + d) + 4 ∧ rg (T 13 d) 0 8) ∧ T 15 0 = f (p + 68) ∧ rg (T 15 0) 0 20 ∧ T 16 0 = f (p + 69) ∧ T 17 0 = f (p + 70) ∧ rg (T 17 0) 0 999
section REL
variable {T : gT} {f : Nat → Int32} {p nh nt : Nat}
theorem RP.hnh (h : RP T f p nh nt) : nh ≤ 4 := h.1
theorem RP.hnt (h : RP T f p nh nt) : nt ≤ 8 := h.2.1
theorem RP.e0 (h : RP T f p nh nt) : T 0 0 = nI nh := h.2.2.1
theorem RP.e6 (h : RP T f p nh nt) : T 6 0 = nI nt := h.2.2.2.1
theorem RP.hs (h : RP T f p nh nt) {k : Nat} (hk : k < nh) : RH T f p k := h.2.2.2.2.1 k hk
theorem RP.is (h : RP T f p nh nt) {k : Nat} (hk : k < nt) : RI T f p nh k := h.2.2.2.2.2.1 k hk
theorem RP.b5 (h : RP T f p nh nt) : RB (T 5 0) nh (fun k => decide (f (p + 16 + k) = 1)) := h.2.2.2.2.2.2.1
theorem RP.b11 (h : RP T f p nh nt) : RB (T 11 0) nt (fun k => decide (f (p + 52 + k) = 1)) := h.2.2.2.2.2.2.2.1
theorem RP.b12 (h : RP T f p nh nt) : RB (T 12 0) nt (fun k => decide (f (p + 52 + k) = 2)) := h.2.2.2.2.2.2.2.2.1
theorem RP.ri (h : RP T f p nh nt) {d : Nat} (hd : d < 7) : T 13 d = f (p + 60 + d) + 4 ∧ rg (T 13 d) 0 8 := h.2.2.2.2.2.2.2.2.2.1 d hd
theorem RP.lv (h : RP T f p nh nt) : T 15 0 = f (p + 68) ∧ rg (T 15 0) 0 20 := ⟨h.2.2.2.2.2.2.2.2.2.2.1, h.2.2.2.2.2.2.2.2.2.2.2.1⟩
theorem RP.da (h : RP T f p nh nt) : T 16 0 = f (p + 69) := h.2.2.2.2.2.2.2.2.2.2.2.2.1
theorem RP.so (h : RP T f p nh nt) : T 17 0 = f (p + 70) ∧ rg (T 17 0) 0 999 := h.2.2.2.2.2.2.2.2.2.2.2.2.2
theorem RB.lt {x : Int32} {m : Nat} {g : Nat → Bool} (h : RB x m g) (hm : m ≤ 32) {k : Nat} (hk : k < m) : bt x k = g k := by
  rw [h k (by omega)]; simp [hk]
theorem RB.I {x : Int32} {m : Nat} {g : Nat → Bool} (h : RB x m g) (hm : m ≤ 32) {k : Nat} (hk : k < m) : btI x (nI k) = g k := by
  rw [btI_bt x (by omega)]; exact h.lt hm hk
theorem RP.in_ (h : RP T f p nh nt) {k : Nat} (hk : k < nt) : btI (T 11 0) (nI k) = decide (f (p + 52 + k) = 1) := h.b11.I (by have := h.hnt; omega) hk
theorem RP.gone (h : RP T f p nh nt) {k : Nat} (hk : k < nt) : btI (T 12 0) (nI k) = decide (f (p + 52 + k) = 2) := h.b12.I (by have := h.hnt; omega) hk
theorem RP.afl (h : RP T f p nh nt) {k : Nat} (hk : k < nh) : btI (T 5 0) (nI k) = decide (f (p + 16 + k) = 1) := h.b5.I (by have := h.hnh; omega) hk
theorem RI.fill {i : Nat} (h : RI T f p nh i) : fillI (T 7 i) (T 9 i) = fllM f p i ∧ rg (fillI (T 7 i) (T 9 i)) 0 18 := by
  have := fill_of h.2.2.2.2.1 (show rg (T 9 i) 0 9 from ⟨by have := h.2.2.2.2.2.2.1.1; omega, h.2.2.2.2.2.2.1.2⟩)
  refine ⟨?_, this.2⟩
  rw [this.1, fllM, h.1, h.2.2.1]
theorem RI.cost {i : Nat} (h : RI T f p nh i) : costI (T 7 i) (T 10 i) = cstM f p i ∧ rg (costI (T 7 i) (T 10 i)) 0 28 := by
  have := cost_of h.2.2.2.2.1 h.2.2.2.2.2.2.2.1
  refine ⟨?_, this.2⟩
  rw [this.1, cstM, h.1, h.2.2.2.1]
/-- any page with the same entries -/
theorem RP.out {g : Nat → Int32} (h : RP T f p nh nt) (hg : ∀ i, i < 71 → g (p + i) = f (p + i)) : RP T g p nh nt := by
  have e : ∀ a i, a + i < 71 → g (p + a + i) = f (p + a + i) := fun a i hi => by rw [Nat.add_assoc]; exact hg _ hi
  have hnh := h.hnh
  have hnt := h.hnt
  refine ⟨hnh, hnt, h.e0, h.e6, fun k hk => ?_, fun k hk => ?_, fun k hk => ?_, fun k hk => ?_, fun k hk => ?_, fun d hd => ?_, ?_, h.lv.2, ?_, ?_, h.so.2⟩
  · have := h.hs hk
    unfold RH at *
    rw [hg k (by omega), e 4 k (by omega), e 8 k (by omega), e 12 k (by omega), e 16 k (by omega)]
    exact this
  · have := h.is hk
    unfold RI at *
    rw [e 20 k (by omega), e 28 k (by omega), e 36 k (by omega), e 44 k (by omega), e 52 k (by omega)]
    exact this
  · rw [h.b5 k hk]
    by_cases z : k < nh
    · simp only [e 16 k (by omega)]
    · simp [z]
  · rw [h.b11 k hk]
    by_cases z : k < nt
    · simp only [e 52 k (by omega)]
    · simp [z]
  · rw [h.b12 k hk]
    by_cases z : k < nt
    · simp only [e 52 k (by omega)]
    · simp [z]
  · rw [e 60 d (by omega)]; exact h.ri hd
  · rw [hg 68 (by decide)]; exact h.lv.1
  · rw [hg 69 (by decide)]; exact h.da
  · rw [hg 70 (by decide)]; exact h.so.1
/-- the page at another place -/
theorem RP.move {g : Nat → Int32} {c : Nat} (h : RP T f p nh nt) (hg : ∀ i, i < 71 → g (c + i) = f (p + i)) : RP T g c nh nt := by
  have e : ∀ a i, a + i < 71 → g (c + a + i) = f (p + a + i) := fun a i hi => by rw [Nat.add_assoc, Nat.add_assoc]; exact hg _ hi
  have hnh := h.hnh
  have hnt := h.hnt
  refine ⟨hnh, hnt, h.e0, h.e6, fun k hk => ?_, fun k hk => ?_, fun k hk => ?_, fun k hk => ?_, fun k hk => ?_, fun d hd => ?_, ?_, h.lv.2, ?_, ?_, h.so.2⟩
  · have := h.hs hk
    unfold RH at *
    rw [hg k (by omega), e 4 k (by omega), e 8 k (by omega), e 12 k (by omega), e 16 k (by omega)]
    exact this
  · have := h.is hk
    unfold RI at *
    rw [e 20 k (by omega), e 28 k (by omega), e 36 k (by omega), e 44 k (by omega), e 52 k (by omega)]
    exact this
  · rw [h.b5 k hk]
    by_cases z : k < nh
    · simp only [e 16 k (by omega)]
    · simp [z]
  · rw [h.b11 k hk]
    by_cases z : k < nt
    · simp only [e 52 k (by omega)]
    · simp [z]
  · rw [h.b12 k hk]
    by_cases z : k < nt
    · simp only [e 52 k (by omega)]
    · simp [z]
  · rw [e 60 d (by omega)]; exact h.ri hd
  · rw [hg 68 (by decide)]; exact h.lv.1
  · rw [hg 69 (by decide)]; exact h.da
  · rw [hg 70 (by decide)]; exact h.so.1
theorem RP.cpy {c : Nat} (h : RP T f p nh nt) (hd : p + 71 ≤ c ∨ c + 71 ≤ p) : RP T (cpyM f p c 71) c nh nt := h.move (fun _ hi => cpyM_in hd hi)
-- sums
theorem fd_eq (h : RP T f p nh nt) (x : Int32) : ∀ k, k ≤ nt → fdT T x k = fldM f p x k
  | 0, _ => rfl
  | k + 1, hk => by
    have ik := h.is (k := k) (by omega)
    rw [fdT, fldM, fd_eq h x k (by omega), h.in_ (k := k) (by omega), ik.2.1, ik.fill.1]
    simp only [decide_eq_true_eq]
def sI (g : Nat → Int) : Nat → Int
  | 0 => 0
  | k + 1 => sI g k + g k
theorem sI_le {g : Nat → Int} {m : Int} (h : ∀ k, k < nt → 0 ≤ g k ∧ g k ≤ m) (hm : 0 ≤ m) : ∀ k, k ≤ nt → 0 ≤ sI g k ∧ sI g k ≤ m * k
  | 0, _ => by simp [sI]
  | k + 1, hk => by
    have ih := sI_le h hm k (by omega)
    have := h k (by omega)
    rw [sI]
    refine ⟨by omega, ?_⟩
    rw [Int.natCast_add, Int.mul_add]
    have e : m * ((1 : Nat) : Int) = m := by simp
    omega
theorem sI_congr {g g' : Nat → Int} : ∀ k, (∀ j, j < k → g j = g' j) → sI g k = sI g' k
  | 0, _ => rfl
  | k + 1, h => by rw [sI, sI, sI_congr k (fun j hj => h j (by omega)), h k (by omega)]
def csum (T : gT) (s : Nat → Bool) (k : Nat) : Int := if s k = true then (costI (T 7 k) (T 10 k)).toInt else 0
theorem csum_rg (h : RP T f p nh nt) {s : Nat → Bool} : ∀ k, k < nt → 0 ≤ csum T s k ∧ csum T s k ≤ 28 := by
  intro k hk
  have := (h.is hk).cost.2
  unfold csum
  split
  · exact this
  · omega
theorem cs_int (h : RP T f p nh nt) (s : Int32) : ∀ k, k ≤ nt → (csT T s k).toInt = sI (csum T (bt s)) k
  | 0, _ => by simp [csT, sI]
  | k + 1, hk => by
    have hnt := h.hnt
    have ih := cs_int h s k (by omega)
    have hb := sI_le (csum_rg h (s := bt s)) (by omega) k (by omega)
    have hc := csum_rg h (s := bt s) k (by omega)
    have hk8 : (28 : Int) * (k : Int) ≤ 28 * 8 := by omega
    have e : (if (s >>> (nI k &&& 31)) &&& 1 = 0 then (0 : Int32) else costI (T 7 k) (T 10 k)).toInt = csum T (bt s) k := by
      unfold csum
      by_cases z : (s >>> (nI k &&& 31)) &&& 1 = 0
      · rw [if_pos z, (sh1_0 s (by omega)).mp z]; simp
      · rw [if_neg z, if_pos]
        cases hb : bt s k with
        | true => rfl
        | false => exact absurd ((sh1_0 s (by omega)).mpr hb) z
    rw [csT, sI, ti_add (by rw [ih, e]; omega) (by rw [ih, e]; omega), ih, e]
end REL
