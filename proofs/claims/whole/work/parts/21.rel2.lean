section REL2
variable {T : gT} {f : Nat → Int32} {p nh nt : Nat}
theorem RP.is_chg {T' : gT} {f' : Nat → Int32} (h : RP T f p nh nt) (hT : ∀ g, g ≠ 11 → g ≠ 12 → g ≠ 17 → T' g = T g) (hf : ∀ j, ¬ (p + 52 ≤ j ∧ j < p + 60) → j ≠ p + 70 → f' j = f j)
    (h52 : ∀ i, i < nt → f' (p + 52 + i) = 0 ∨ f' (p + 52 + i) = 1 ∨ f' (p + 52 + i) = 2) (b11 : RB (T' 11 0) nt (fun k => decide (f' (p + 52 + k) = 1))) (b12 : RB (T' 12 0) nt (fun k => decide (f' (p + 52 + k) = 2)))
    (so : T' 17 0 = f' (p + 70) ∧ rg (T' 17 0) 0 999) : RP T' f' p nh nt := by
  have hnh := h.hnh
  have hnt := h.hnt
  have t : ∀ g, g ≠ 11 → g ≠ 12 → g ≠ 17 → T' g = T g := hT
  refine ⟨hnh, hnt, by rw [t 0 (by decide) (by decide) (by decide)]; exact h.e0, by rw [t 6 (by decide) (by decide) (by decide)]; exact h.e6, fun k hk => ?_, fun k hk => ?_, fun k hk => ?_, b11, b12, fun d hd => ?_, ?_, ?_, ?_, so.1, so.2⟩
  · have := h.hs hk
    unfold RH at *
    rw [t 1 (by decide) (by decide) (by decide), t 2 (by decide) (by decide) (by decide), t 3 (by decide) (by decide) (by decide), t 4 (by decide) (by decide) (by decide), hf (p + k) (by omega) (by omega), hf (p + 4 + k) (by omega) (by omega), hf (p + 8 + k) (by omega) (by omega), hf (p + 12 + k) (by omega) (by omega), hf (p + 16 + k) (by omega) (by omega)]
    exact this
  · have := h.is hk
    unfold RI at *
    rw [t 7 (by decide) (by decide) (by decide), t 8 (by decide) (by decide) (by decide), t 9 (by decide) (by decide) (by decide), t 10 (by decide) (by decide) (by decide), hf (p + 20 + k) (by omega) (by omega), hf (p + 28 + k) (by omega) (by omega), hf (p + 36 + k) (by omega) (by omega), hf (p + 44 + k) (by omega) (by omega)]
    exact ⟨this.1, this.2.1, this.2.2.1, this.2.2.2.1, this.2.2.2.2.1, this.2.2.2.2.2.1, this.2.2.2.2.2.2.1, this.2.2.2.2.2.2.2.1, h52 k hk⟩
  · rw [t 5 (by decide) (by decide) (by decide), h.b5 k hk]
    by_cases z : k < nh
    · simp only [hf (p + 16 + k) (by omega) (by omega)]
    · simp [z]
  · rw [t 13 (by decide) (by decide) (by decide), hf (p + 60 + d) (by omega) (by omega)]; exact h.ri hd
  · rw [t 15 (by decide) (by decide) (by decide), hf (p + 68) (by omega) (by omega)]; exact h.lv.1
  · rw [t 15 (by decide) (by decide) (by decide)]; exact h.lv.2
  · rw [t 16 (by decide) (by decide) (by decide), hf (p + 69) (by omega) (by omega)]; exact h.da
theorem csT_congr {U : gT} (h7 : U 7 = T 7) (h10 : U 10 = T 10) (s : Int32) : ∀ k, csT U s k = csT T s k
  | 0 => rfl
  | k + 1 => by rw [csT, csT, csT_congr h7 h10 s k, h7, h10]
theorem loseT_11 {s : Int32} : loseT T s nt 11 0 = T 11 0 &&& (s ^^^ (-1)) := rfl
theorem loseT_12 {s : Int32} : loseT T s nt 12 0 = T 12 0 ||| s := rfl
theorem loseT_17 (h : RP T f p nh nt) (s : Int32) : (loseT T s nt 17 0).toInt = min 999 ((T 17 0).toInt + sI (csum T (bt s)) nt) := by
  have e : loseT T s nt 17 0 = if T 17 0 + csT T s nt < 999 then T 17 0 + csT T s nt else 999 := by
    have ec : csT (tup (tup T 11 0 (T 11 0 &&& (s ^^^ (-1)))) 12 0 (tup T 11 0 (T 11 0 &&& (s ^^^ (-1))) 12 0 ||| s)) s nt = csT T s nt := csT_congr (by rfl) (by rfl) s nt
    show (if T 17 0 + csT (tup (tup T 11 0 (T 11 0 &&& (s ^^^ (-1)))) 12 0 (tup T 11 0 (T 11 0 &&& (s ^^^ (-1))) 12 0 ||| s)) s nt < 999 then T 17 0 + csT (tup (tup T 11 0 (T 11 0 &&& (s ^^^ (-1)))) 12 0 (tup T 11 0 (T 11 0 &&& (s ^^^ (-1))) 12 0 ||| s)) s nt else 999) = _
    rw [ec]
  have hc := cs_int h s nt (Nat.le_refl _)
  have hb := sI_le (csum_rg h (s := bt s)) (by omega) nt (Nat.le_refl _)
  have hnt := h.hnt
  have hn : (28 : Int) * (nt : Int) ≤ 28 * 8 := by omega
  have hs := h.so.2
  unfold rg at hs
  have ha : (T 17 0 + csT T s nt).toInt = (T 17 0).toInt + sI (csum T (bt s)) nt := by rw [ti_add (by rw [hc]; omega) (by rw [hc]; omega), hc]
  rw [e]
  by_cases z : T 17 0 + csT T s nt < 999
  · rw [if_pos z, ha]
    rw [Int32.lt_iff_toInt_lt, ha, ti999] at z
    omega
  · rw [if_neg z, ti999]
    rw [Int32.lt_iff_toInt_lt, ha, ti999] at z
    omega
theorem sI_single {k m : Nat} {c : Int} (hk : k < m) : sI (fun j => if j = k then c else 0) m = c := by
  have h0 : ∀ i, i ≤ k → sI (fun j => if j = k then c else 0) i = 0 := by
    intro i
    induction i with
    | zero => intro _; rfl
    | succ i ih => intro hi; rw [sI, ih (by omega), if_neg (by omega)]; rfl
  have h1 : ∀ d, sI (fun j => if j = k then c else 0) (k + 1 + d) = c := by
    intro d
    induction d with
    | zero => rw [Nat.add_zero, sI, h0 k (Nat.le_refl _), if_pos rfl]; omega
    | succ d ih => rw [← Nat.add_assoc, sI, ih, if_neg (by omega)]; omega
  have := h1 (m - (k + 1))
  rwa [show k + 1 + (m - (k + 1)) = m by omega] at this
theorem losM_70 (h : RP T f p nh nt) {k : Nat} (hk : k < nt) : (losM f p k (p + 70)).toInt = min 999 ((f (p + 70)).toInt + (costI (T 7 k) (T 10 k)).toInt) := by
  have hc := (h.is hk).cost
  have hs := h.so
  unfold rg at hc hs
  rw [losM, pk_us, ← hc.1, ← hs.1]
  have ha : (T 17 0 + costI (T 7 k) (T 10 k)).toInt = (T 17 0).toInt + (costI (T 7 k) (T 10 k)).toInt := ti_add (by omega) (by omega)
  by_cases z : T 17 0 + costI (T 7 k) (T 10 k) ≤ 999
  · rw [if_pos z, ha]
    rw [Int32.le_iff_toInt_le, ha, ti999] at z
    omega
  · rw [if_neg z, ti999]
    rw [Int32.le_iff_toInt_le, ha, ti999] at z
    omega
theorem RP.lose1 (h : RP T f p nh nt) {k : Nat} (hk : k < nt) : RP (loseT T (1 <<< (nI k &&& 31)) nt) (losM f p k) p nh nt := by
  have hnt := h.hnt
  have e52 : ∀ i, losM f p k (p + 52 + i) = if i = k then 2 else if p + 52 + i = p + 70 then losM f p k (p + 70) else f (p + 52 + i) := by
    intro i
    by_cases z : i = k
    · subst z; rw [if_pos rfl, losM, pk_un (by omega), pk_us]
    · rw [if_neg z]
      by_cases y : p + 52 + i = p + 70
      · rw [if_pos y, y]
      · rw [if_neg y, losM_n (by omega) y]
  refine h.is_chg (fun g h1 h2 h3 => loseT_n h1 h2 h3) (fun j h1 h2 => losM_n (by omega) h2) (fun i hi => ?_) (fun j hj => ?_) (fun j hj => ?_) ?_
  · rw [e52]
    by_cases z : i = k
    · rw [if_pos z]; exact Or.inr (Or.inr rfl)
    · rw [if_neg z, if_neg (by omega)]; exact (h.is hi).2.2.2.2.2.2.2.2
  · rw [loseT_11, b_and, bt_not _ hj, bt_shl1 (by omega) hj, h.b11 j hj]
    dsimp only
    by_cases y : j < nt
    · rw [e52]
      by_cases z : j = k
      · subst z; simp [y]
      · rw [if_neg z, if_neg (by omega)]; simp [y, z]
    · simp [y]
  · rw [loseT_12, b_or, bt_shl1 (by omega) hj, h.b12 j hj]
    dsimp only
    by_cases y : j < nt
    · rw [e52]
      by_cases z : j = k
      · subst z; simp [y]
      · rw [if_neg z, if_neg (by omega)]; simp [y, z]
    · have z : ¬ j = k := by omega
      simp [y, z]
  · have a := loseT_17 h (1 <<< (nI k &&& 31))
    have b := losM_70 h hk
    have c : sI (csum T (bt (1 <<< (nI k &&& 31)))) nt = (costI (T 7 k) (T 10 k)).toInt := by
      rw [sI_congr (g' := fun j => if j = k then (costI (T 7 k) (T 10 k)).toInt else 0) nt (fun j hj => ?_), sI_single hk]
      unfold csum
      rw [bt_shl1 (by omega) (by omega)]
      by_cases z : j = k
      · subst z; simp
      · simp [z]
    have hc := (h.is hk).cost.2
    have hs := h.so
    unfold rg at hc hs
    rw [c, hs.1] at a
    refine ⟨Int32.toInt_inj.mp (a.trans b.symm), ?_⟩
    unfold rg
    rw [a]
    rw [hs.1] at hs
    omega
-- all that are out are lost
theorem dlM_52 {h : Int32} (hr : RP T f p nh nt) : ∀ i, i ≤ nt → ∀ j, j < nt → dlM f p h i (p + 52 + j) = if j < i ∧ f (p + 28 + j) = h ∧ f (p + 52 + j) = 0 then 2 else f (p + 52 + j)
  | 0, _, j, _ => by rw [dlM, if_neg (by omega)]
  | i + 1, hi, j, hj => by
    have hnt := hr.hnt
    have ih := dlM_52 (h := h) hr i (by omega)
    have e28 : dlM f p h i (p + 28 + i) = f (p + 28 + i) := dlM_n (by omega) (by omega) i (by omega)
    have e52 : dlM f p h i (p + 52 + i) = f (p + 52 + i) := by rw [ih i (by omega), if_neg (by omega)]
    rw [dlM, e28, e52]
    by_cases z : j = i
    · subst z
      by_cases a : f (p + 28 + j) = h
      · rw [if_pos a]
        by_cases b : f (p + 52 + j) = 0
        · rw [if_pos b, if_pos ⟨by omega, a, b⟩, losM, pk_un (by omega), pk_us]
        · rw [if_neg b, if_neg (fun q => b q.2.2), ih j hj, if_neg (by omega)]
      · rw [if_neg a, if_neg (fun q => a q.2.1), ih j hj, if_neg (by omega)]
    · have key : ∀ g : Nat → Int32, g (p + 52 + j) = dlM f p h i (p + 52 + j) → g (p + 52 + j) = if j < i + 1 ∧ f (p + 28 + j) = h ∧ f (p + 52 + j) = 0 then 2 else f (p + 52 + j) := by
        intro g hg
        rw [hg, ih j hj]
        by_cases y : j < i
        · by_cases x : f (p + 28 + j) = h ∧ f (p + 52 + j) = 0
          · rw [if_pos ⟨y, x⟩, if_pos ⟨by omega, x⟩]
          · rw [if_neg (fun q => x q.2), if_neg (fun q => x q.2)]
        · rw [if_neg (by omega), if_neg (by omega)]
      by_cases a : f (p + 28 + i) = h
      · rw [if_pos a]
        by_cases b : f (p + 52 + i) = 0
        · rw [if_pos b]; exact key _ (losM_n (by omega) (by omega))
        · rw [if_neg b]; exact key _ rfl
      · rw [if_neg a]; exact key _ rfl
def outb (T : gT) (f : Nat → Int32) (p : Nat) (h : Int32) (j : Nat) : Bool := decide (T 8 j = h) && decide (f (p + 52 + j) = 0)
theorem dlM_70 {h : Int32} (hr : RP T f p nh nt) : ∀ i, i ≤ nt → (dlM f p h i (p + 70)).toInt = min 999 ((f (p + 70)).toInt + sI (csum T (outb T f p h)) i)
  | 0, _ => by
    have hs := hr.so
    unfold rg at hs
    rw [dlM, sI]
    rw [hs.1] at hs
    omega
  | i + 1, hi => by
    have hnt := hr.hnt
    have ih := dlM_70 (h := h) hr i (by omega)
    have e : ∀ a, a + i < 52 → dlM f p h i (p + a + i) = f (p + a + i) := fun a ha => dlM_n (by omega) (by omega) i (by omega)
    have e52 : dlM f p h i (p + 52 + i) = f (p + 52 + i) := by rw [dlM_52 hr i (by omega) i (by omega), if_neg (by omega)]
    have ii := hr.is (k := i) (by omega)
    have hc := ii.cost
    have hs := hr.so
    have hb := sI_le (csum_rg hr (s := outb T f p h)) (by omega) i (by omega)
    have hi8 : (28 : Int) * (i : Int) ≤ 28 * 8 := by omega
    unfold rg at hc hs
    rw [hs.1] at hs
    rw [dlM, e 28 (by omega), e52, sI]
    have hcs : csum T (outb T f p h) i = if f (p + 28 + i) = h then (if f (p + 52 + i) = 0 then (costI (T 7 i) (T 10 i)).toInt else 0) else 0 := by
      unfold csum outb
      rw [ii.2.1]
      by_cases a : f (p + 28 + i) = h
      · by_cases b : f (p + 52 + i) = 0
        · simp [a, b]
        · simp [a, b]
      · simp [a]
    rw [hcs]
    by_cases a : f (p + 28 + i) = h
    · rw [if_pos a, if_pos a]
      by_cases b : f (p + 52 + i) = 0
      · rw [if_pos b, if_pos b, losM, pk_us]
        have ec : cstM (dlM f p h i) p i = costI (T 7 i) (T 10 i) := by rw [hc.1, cstM, cstM, e 20 (by omega), e 44 (by omega)]
        rw [ec]
        have ha : (dlM f p h i (p + 70) + costI (T 7 i) (T 10 i)).toInt = (dlM f p h i (p + 70)).toInt + (costI (T 7 i) (T 10 i)).toInt := ti_add (by rw [ih]; omega) (by rw [ih]; omega)
        by_cases z : dlM f p h i (p + 70) + costI (T 7 i) (T 10 i) ≤ 999
        · rw [if_pos z, ha, ih]
          rw [Int32.le_iff_toInt_le, ha, ti999, ih] at z
          omega
        · rw [if_neg z, ti999]
          rw [Int32.le_iff_toInt_le, ha, ti999, ih] at z
          omega
      · rw [if_neg b, if_neg b, ih]; omega
    · rw [if_neg a, if_neg a, ih]; omega
theorem ths_bt (h : Int32) : ∀ k, k ≤ 8 → ∀ j, j < 32 → bt (thsT T h k) j = (decide (j < k) && decide (T 8 j = h))
  | 0, _, j, _ => by rw [thsT, b_0]; simp
  | k + 1, hk, j, hj => by
    rw [thsT, b_or, ths_bt h k (by omega) j hj]
    by_cases z : j = k
    · subst z
      by_cases a : T 8 j = h
      · rw [if_pos a, bt_shl1 (by omega) hj]; simp [a]
      · rw [if_neg a, b_0]; simp [a]
    · have e : decide (j < k + 1) = decide (j < k) := by
        by_cases y : j < k
        · simp [y]; omega
        · have : ¬ j < k + 1 := by omega
          simp [y, this]
      rw [e]
      by_cases a : T 8 k = h
      · rw [if_pos a, bt_shl1 (by omega) hj]; simp [z]
      · rw [if_neg a, b_0]; simp
theorem phS_bt (hr : RP T f p nh nt) (h : Int32) : ∀ j, j < 32 → bt (phS T h nt) j = (decide (j < nt) && outb T f p h j) := by
  intro j hj
  have hnt := hr.hnt
  rw [phS, b_and, b_and, ths_bt h nt hnt j hj, bt_not _ hj, bt_not _ hj, hr.b11 j hj, hr.b12 j hj]
  by_cases y : j < nt
  · have := (hr.is y).2.2.2.2.2.2.2.2
    unfold outb
    rcases this with z | z | z
    · simp [y, z]
    · simp [y, z]
    · simp [y, z]
  · simp [y]
theorem RP.loseOut (hr : RP T f p nh nt) (h : Int32) : RP (loseT T (phS T h nt) nt) (dlM f p h nt) p nh nt := by
  have hnt := hr.hnt
  have hb := phS_bt hr h
  have e52 := dlM_52 (h := h) hr nt (Nat.le_refl _)
  refine hr.is_chg (fun g h1 h2 h3 => loseT_n h1 h2 h3) (fun j h1 h2 => dlM_n h1 h2 nt hnt) (fun i hi => ?_) (fun j hj => ?_) (fun j hj => ?_) ?_
  · rw [e52 i hi]
    split
    · exact Or.inr (Or.inr rfl)
    · exact (hr.is hi).2.2.2.2.2.2.2.2
  · rw [loseT_11, b_and, bt_not _ hj, hb j hj, hr.b11 j hj]
    dsimp only
    by_cases y : j < nt
    · rw [e52 j y]
      have i28 := (hr.is y).2.1
      unfold outb
      rw [i28]
      by_cases a : f (p + 28 + j) = h
      · by_cases b : f (p + 52 + j) = 0
        · rw [if_pos ⟨y, a, b⟩]; simp [y, a, b]
        · rw [if_neg (fun q => b q.2.2)]; simp [y, b]
      · rw [if_neg (fun q => a q.2.1)]; simp [y, a]
    · simp [y]
  · rw [loseT_12, b_or, hb j hj, hr.b12 j hj]
    dsimp only
    by_cases y : j < nt
    · rw [e52 j y]
      have i28 := (hr.is y).2.1
      unfold outb
      rw [i28]
      by_cases a : f (p + 28 + j) = h
      · by_cases b : f (p + 52 + j) = 0
        · rw [if_pos ⟨y, a, b⟩]; simp [y, a, b]
        · rw [if_neg (fun q => b q.2.2)]; simp [y, b]
      · rw [if_neg (fun q => a q.2.1)]; simp [y, a]
    · simp [y]
  · have a := loseT_17 hr (phS T h nt)
    have b := dlM_70 (h := h) hr nt (Nat.le_refl _)
    have c : sI (csum T (bt (phS T h nt))) nt = sI (csum T (outb T f p h)) nt := by
      refine sI_congr nt (fun j hj => ?_)
      unfold csum
      rw [hb j (by omega)]
      simp [hj]
    have hs := hr.so
    have hq := sI_le (csum_rg hr (s := outb T f p h)) (by omega) nt (Nat.le_refl _)
    unfold rg at hs
    rw [c, hs.1] at a
    refine ⟨Int32.toInt_inj.mp (a.trans b.symm), ?_⟩
    unfold rg
    rw [a]
    rw [hs.1] at hs
    omega
-- what is over is lost
theorem flw_id {h : Int32} {hj : Nat} (hf : fldM f p h nt ≤ f (p + 4 + hj)) : ∀ k, flwM p h hj nt k f = f
  | 0 => rfl
  | k + 1 => by
    rw [flwM]
    split
    · split
      · first | (rw [if_pos hf]; exact flw_id hf k) | exact flw_id hf k
      · exact flw_id hf k
    · exact flw_id hf k
theorem i32_ac (a x b : Int32) : (a - x) + b = a + b - x := by rw [Int32.sub_eq_add_neg, Int32.sub_eq_add_neg, Int32.add_assoc, Int32.add_comm (-x) b, ← Int32.add_assoc]
theorem fd_lose (hr : RP T f p nh nt) {h : Int32} {k : Nat} (hk : k < nt) (h1 : f (p + 52 + k) = 1) (h8 : T 8 k = h) : ∀ m, m ≤ nt → fdT (loseT T (1 <<< (nI k &&& 31)) nt) h m = if k < m then fdT T h m - fillI (T 7 k) (T 9 k) else fdT T h m
  | 0, _ => by rw [fdT, fdT, if_neg (by omega)]
  | m + 1, hm => by
    have hnt := hr.hnt
    have ih := fd_lose hr hk h1 h8 m (by omega)
    have e : ∀ g, g ≠ 11 → g ≠ 12 → g ≠ 17 → loseT T (1 <<< (nI k &&& 31)) nt g = T g := fun g a b c => loseT_n a b c
    rw [fdT, fdT, ih, e 8 (by decide) (by decide) (by decide), e 7 (by decide) (by decide) (by decide), e 9 (by decide) (by decide) (by decide)]
    have hbit : btI (loseT T (1 <<< (nI k &&& 31)) nt 11 0) (nI m) = (btI (T 11 0) (nI m) && !decide (m = k)) := by
      rw [btI_bt _ (by omega), btI_bt _ (by omega), loseT_11, b_and, bt_not _ (by omega), bt_shl1 (by omega) (by omega)]
    rw [hbit]
    by_cases z : m = k
    · subst z
      rw [if_neg (Nat.lt_irrefl m), if_pos (Nat.lt_succ_self m), if_pos h8, if_pos h8, hr.in_ hk, h1]
      simp [Int32.add_sub_cancel]
    · have hb2 : (btI (T 11 0) (nI m) && !decide (m = k)) = btI (T 11 0) (nI m) := by simp [z]
      rw [hb2]
      by_cases y : k < m
      · rw [if_pos y, if_pos (show k < m + 1 by omega), i32_ac]
      · rw [if_neg y, if_neg (show ¬ k < m + 1 by omega)]
theorem lw_rel {hj : Nat} (hh : hj < nh) : ∀ (k : Nat) (T : gT) (f : Nat → Int32) (fv : Int32), RP T f p nh nt → k ≤ nt → fv = fdT T (nI hj) nt → RP (lwT nt (nI hj) hj k T fv) (flwM p (nI hj) hj nt k f) p nh nt
  | 0, T, f, fv, hr, _, _ => hr
  | k + 1, T, f, fv, hr, hk, hfv => by
    have hnt := hr.hnt
    have e2 := (hr.hs hh).2.1
    have ef := fd_eq hr (nI hj) nt (Nat.le_refl _)
    by_cases z : fv ≤ T 2 hj
    · rw [lwT, if_pos z, flw_id (by rw [← ef, ← e2, ← hfv]; exact z)]
      exact hr
    · have zf : ¬ fldM f p (nI hj) nt ≤ f (p + 4 + hj) := by rw [← ef, ← e2, ← hfv]; exact z
      have i8 := (hr.is (k := k) (by omega)).2.1
      rw [lwT, if_neg z, flwM]
      by_cases a : f (p + 28 + k) = nI hj
      · rw [if_pos a]
        by_cases b : f (p + 52 + k) = 1
        · rw [if_pos b, if_neg zf, if_pos (by rw [hr.in_ (by omega), b]; decide), if_pos (by rw [i8]; exact a)]
          refine lw_rel hh k _ _ _ (hr.lose1 (by omega)) (by omega) ?_
          rw [fd_lose hr (by omega) b (by rw [i8]; exact a) nt (Nat.le_refl _), if_pos (by omega), hfv]
        · rw [if_neg b, if_neg (by rw [hr.in_ (by omega)]; simp [b])]
          exact lw_rel hh k T f fv hr (by omega) hfv
      · rw [if_neg a]
        by_cases b : btI (T 11 0) (nI k) = true
        · rw [if_pos b, if_neg (by rw [i8]; exact a)]
          exact lw_rel hh k T f fv hr (by omega) hfv
        · rw [if_neg b]
          exact lw_rel hh k T f fv hr (by omega) hfv
end REL2
