section REL3
variable {T : gT} {f : Nat → Int32} {p nh nt : Nat}
theorem RP.hchg {T' : gT} {f' : Nat → Int32} (h : RP T f p nh nt) (hT : ∀ g, g ≠ 1 → g ≠ 2 → g ≠ 3 → g ≠ 4 → T' g = T g) (hf : ∀ j, ¬ (p ≤ j ∧ j < p + 16) → f' j = f j) (hH : ∀ k, k < nh → RH T' f' p k) : RP T' f' p nh nt := by
  have hnh := h.hnh
  have hnt := h.hnt
  refine ⟨hnh, hnt, by rw [hT 0 (by decide) (by decide) (by decide) (by decide)]; exact h.e0, by rw [hT 6 (by decide) (by decide) (by decide) (by decide)]; exact h.e6, hH, fun k hk => ?_, fun k hk => ?_, fun k hk => ?_, fun k hk => ?_, fun d hd => ?_, ?_, ?_, ?_, ?_, ?_⟩
  · have := h.is hk
    unfold RI at *
    rw [hT 7 (by decide) (by decide) (by decide) (by decide), hT 8 (by decide) (by decide) (by decide) (by decide), hT 9 (by decide) (by decide) (by decide) (by decide), hT 10 (by decide) (by decide) (by decide) (by decide), hf (p + 20 + k) (by omega), hf (p + 28 + k) (by omega), hf (p + 36 + k) (by omega), hf (p + 44 + k) (by omega), hf (p + 52 + k) (by omega)]
    exact this
  · rw [hT 5 (by decide) (by decide) (by decide) (by decide), h.b5 k hk]
    dsimp only
    rw [hf (p + 16 + k) (by omega)]
  · rw [hT 11 (by decide) (by decide) (by decide) (by decide), h.b11 k hk]
    dsimp only
    rw [hf (p + 52 + k) (by omega)]
  · rw [hT 12 (by decide) (by decide) (by decide) (by decide), h.b12 k hk]
    dsimp only
    rw [hf (p + 52 + k) (by omega)]
  · rw [hT 13 (by decide) (by decide) (by decide) (by decide), hf (p + 60 + d) (by omega)]; exact h.ri hd
  · rw [hT 15 (by decide) (by decide) (by decide) (by decide), hf (p + 68) (by omega)]; exact h.lv.1
  · rw [hT 15 (by decide) (by decide) (by decide) (by decide)]; exact h.lv.2
  · rw [hT 16 (by decide) (by decide) (by decide) (by decide), hf (p + 69) (by omega)]; exact h.da
  · rw [hT 17 (by decide) (by decide) (by decide) (by decide), hf (p + 70) (by omega)]; exact h.so.1
  · rw [hT 17 (by decide) (by decide) (by decide) (by decide)]; exact h.so.2
theorem RP.ichg {T' : gT} {f' : Nat → Int32} (h : RP T f p nh nt) (hT : ∀ g, g ≠ 7 → g ≠ 8 → g ≠ 9 → g ≠ 10 → T' g = T g) (hf : ∀ j, ¬ (p + 20 ≤ j ∧ j < p + 52) → f' j = f j) (hI : ∀ k, k < nt → RI T' f' p nh k) : RP T' f' p nh nt := by
  have hnh := h.hnh
  have hnt := h.hnt
  refine ⟨hnh, hnt, by rw [hT 0 (by decide) (by decide) (by decide) (by decide)]; exact h.e0, by rw [hT 6 (by decide) (by decide) (by decide) (by decide)]; exact h.e6, fun k hk => ?_, hI, fun k hk => ?_, fun k hk => ?_, fun k hk => ?_, fun d hd => ?_, ?_, ?_, ?_, ?_, ?_⟩
  · have := h.hs hk
    unfold RH at *
    rw [hT 1 (by decide) (by decide) (by decide) (by decide), hT 2 (by decide) (by decide) (by decide) (by decide), hT 3 (by decide) (by decide) (by decide) (by decide), hT 4 (by decide) (by decide) (by decide) (by decide), hf (p + k) (by omega), hf (p + 4 + k) (by omega), hf (p + 8 + k) (by omega), hf (p + 12 + k) (by omega), hf (p + 16 + k) (by omega)]
    exact this
  · rw [hT 5 (by decide) (by decide) (by decide) (by decide), h.b5 k hk]
    by_cases z : k < nh
    · dsimp only
      rw [hf (p + 16 + k) (by omega)]
    · simp [z]
  · rw [hT 11 (by decide) (by decide) (by decide) (by decide), h.b11 k hk]
    dsimp only
    rw [hf (p + 52 + k) (by omega)]
  · rw [hT 12 (by decide) (by decide) (by decide) (by decide), h.b12 k hk]
    dsimp only
    rw [hf (p + 52 + k) (by omega)]
  · rw [hT 13 (by decide) (by decide) (by decide) (by decide), hf (p + 60 + d) (by omega)]; exact h.ri hd
  · rw [hT 15 (by decide) (by decide) (by decide) (by decide), hf (p + 68) (by omega)]; exact h.lv.1
  · rw [hT 15 (by decide) (by decide) (by decide) (by decide)]; exact h.lv.2
  · rw [hT 16 (by decide) (by decide) (by decide) (by decide), hf (p + 69) (by omega)]; exact h.da
  · rw [hT 17 (by decide) (by decide) (by decide) (by decide), hf (p + 70) (by omega)]; exact h.so.1
  · rw [hT 17 (by decide) (by decide) (by decide) (by decide)]; exact h.so.2
/-- bits of afloat, level, day, rises: what a page and a Terrace have of them -/
theorem RP.schg {T' : gT} {f' : Nat → Int32} (h : RP T f p nh nt) (hT : ∀ g, g ≠ 5 → g ≠ 13 → g ≠ 15 → g ≠ 16 → T' g = T g) (hf : ∀ j, ¬ (p + 16 ≤ j ∧ j < p + 20) → ¬ (p + 60 ≤ j ∧ j < p + 67) → j ≠ p + 68 → j ≠ p + 69 → f' j = f j)
    (h16 : ∀ k, k < nh → f' (p + 16 + k) = 0 ∨ f' (p + 16 + k) = 1) (b5 : RB (T' 5 0) nh (fun k => decide (f' (p + 16 + k) = 1))) (hr : ∀ d, d < 7 → T' 13 d = f' (p + 60 + d) + 4 ∧ rg (T' 13 d) 0 8) (hl : T' 15 0 = f' (p + 68) ∧ rg (T' 15 0) 0 20) (hd : T' 16 0 = f' (p + 69)) : RP T' f' p nh nt := by
  have hnh := h.hnh
  have hnt := h.hnt
  refine ⟨hnh, hnt, by rw [hT 0 (by decide) (by decide) (by decide) (by decide)]; exact h.e0, by rw [hT 6 (by decide) (by decide) (by decide) (by decide)]; exact h.e6, fun k hk => ?_, fun k hk => ?_, b5, fun k hk => ?_, fun k hk => ?_, hr, hl.1, hl.2, hd, ?_, ?_⟩
  · have := h.hs hk
    unfold RH at *
    rw [hT 1 (by decide) (by decide) (by decide) (by decide), hT 2 (by decide) (by decide) (by decide) (by decide), hT 3 (by decide) (by decide) (by decide) (by decide), hT 4 (by decide) (by decide) (by decide) (by decide), hf (p + k) (by omega) (by omega) (by omega) (by omega), hf (p + 4 + k) (by omega) (by omega) (by omega) (by omega), hf (p + 8 + k) (by omega) (by omega) (by omega) (by omega), hf (p + 12 + k) (by omega) (by omega) (by omega) (by omega)]
    exact ⟨this.1, this.2.1, this.2.2.1, this.2.2.2.1, this.2.2.2.2.1, this.2.2.2.2.2.1, this.2.2.2.2.2.2.1, this.2.2.2.2.2.2.2.1, h16 k hk⟩
  · have := h.is hk
    unfold RI at *
    rw [hT 7 (by decide) (by decide) (by decide) (by decide), hT 8 (by decide) (by decide) (by decide) (by decide), hT 9 (by decide) (by decide) (by decide) (by decide), hT 10 (by decide) (by decide) (by decide) (by decide), hf (p + 20 + k) (by omega) (by omega) (by omega) (by omega), hf (p + 28 + k) (by omega) (by omega) (by omega) (by omega), hf (p + 36 + k) (by omega) (by omega) (by omega) (by omega), hf (p + 44 + k) (by omega) (by omega) (by omega) (by omega), hf (p + 52 + k) (by omega) (by omega) (by omega) (by omega)]
    exact this
  · rw [hT 11 (by decide) (by decide) (by decide) (by decide), h.b11 k hk]
    by_cases z : k < nt
    · dsimp only
      rw [hf (p + 52 + k) (by omega) (by omega) (by omega) (by omega)]
    · simp [z]
  · rw [hT 12 (by decide) (by decide) (by decide) (by decide), h.b12 k hk]
    by_cases z : k < nt
    · dsimp only
      rw [hf (p + 52 + k) (by omega) (by omega) (by omega) (by omega)]
    · simp [z]
  · rw [hT 17 (by decide) (by decide) (by decide) (by decide), hf (p + 70) (by omega) (by omega) (by omega) (by omega)]; exact h.so.1
  · rw [hT 17 (by decide) (by decide) (by decide) (by decide)]; exact h.so.2
theorem RP.set1 (h : RP T f p nh nt) {k : Nat} (hk : k < nh) {v : Int32} (hv : rg v 0 20) : RP (tup T 1 k v) (upd f (p + k) v) p nh nt := by
  have hnh := h.hnh
  refine h.hchg (fun g h1 _ _ _ => tup_n h1) (fun j hj => pk_un (by omega)) (fun i hi => ?_)
  have := h.hs hi
  unfold RH at *
  rw [tup_s, tup_n (by decide), tup_n (by decide), tup_n (by decide), pk_un (j := p + 4 + i) (by omega), pk_un (j := p + 8 + i) (by omega), pk_un (j := p + 12 + i) (by omega), pk_un (j := p + 16 + i) (by omega)]
  by_cases z : i = k
  · subst z; rw [pk_us, pk_us]; exact ⟨rfl, this.2.1, this.2.2.1, this.2.2.2.1, hv, this.2.2.2.2.2⟩
  · rw [pk_un z, pk_un (by omega)]; exact this
theorem RP.set2 (h : RP T f p nh nt) {k : Nat} (hk : k < nh) {v : Int32} (hv : rg v 0 40) : RP (tup T 2 k v) (upd f (p + 4 + k) v) p nh nt := by
  have hnh := h.hnh
  refine h.hchg (fun g _ h1 _ _ => tup_n h1) (fun j hj => pk_un (by omega)) (fun i hi => ?_)
  have := h.hs hi
  unfold RH at *
  rw [tup_s, tup_n (by decide), tup_n (by decide), tup_n (by decide), pk_un (j := p + i) (by omega), pk_un (j := p + 8 + i) (by omega), pk_un (j := p + 12 + i) (by omega), pk_un (j := p + 16 + i) (by omega)]
  by_cases z : i = k
  · subst z; rw [pk_us, pk_us]; exact ⟨this.1, rfl, this.2.2.1, this.2.2.2.1, this.2.2.2.2.1, hv, this.2.2.2.2.2.2⟩
  · rw [pk_un z, pk_un (by omega)]; exact this
theorem RP.set3 (h : RP T f p nh nt) {k : Nat} (hk : k < nh) {v : Int32} (hv : rg v 0 3) : RP (tup T 3 k v) (upd f (p + 8 + k) v) p nh nt := by
  have hnh := h.hnh
  refine h.hchg (fun g _ _ h1 _ => tup_n h1) (fun j hj => pk_un (by omega)) (fun i hi => ?_)
  have := h.hs hi
  unfold RH at *
  rw [tup_s, tup_n (by decide), tup_n (by decide), tup_n (by decide), pk_un (j := p + i) (by omega), pk_un (j := p + 4 + i) (by omega), pk_un (j := p + 12 + i) (by omega), pk_un (j := p + 16 + i) (by omega)]
  by_cases z : i = k
  · subst z; rw [pk_us, pk_us]; exact ⟨this.1, this.2.1, rfl, this.2.2.2.1, this.2.2.2.2.1, this.2.2.2.2.2.1, hv, this.2.2.2.2.2.2.2⟩
  · rw [pk_un z, pk_un (by omega)]; exact this
theorem RP.set4 (h : RP T f p nh nt) {k : Nat} (hk : k < nh) {v : Int32} (hv : rg v 0 99) : RP (tup T 4 k v) (upd f (p + 12 + k) v) p nh nt := by
  have hnh := h.hnh
  refine h.hchg (fun g _ _ _ h1 => tup_n h1) (fun j hj => pk_un (by omega)) (fun i hi => ?_)
  have := h.hs hi
  unfold RH at *
  rw [tup_s, tup_n (by decide), tup_n (by decide), tup_n (by decide), pk_un (j := p + i) (by omega), pk_un (j := p + 4 + i) (by omega), pk_un (j := p + 8 + i) (by omega), pk_un (j := p + 16 + i) (by omega)]
  by_cases z : i = k
  · subst z; rw [pk_us, pk_us]; exact ⟨this.1, this.2.1, this.2.2.1, rfl, this.2.2.2.2.1, this.2.2.2.2.2.1, this.2.2.2.2.2.2.1, hv, this.2.2.2.2.2.2.2.2⟩
  · rw [pk_un z, pk_un (by omega)]; exact this
theorem RP.set5 (h : RP T f p nh nt) {k : Nat} (hk : k < nh) {v x : Int32} (hx : x = 0 ∨ x = 1) (hv : ∀ j, j < 32 → bt v j = if j = k then decide (x = 1) else bt (T 5 0) j) : RP (tup T 5 0 v) (upd f (p + 16 + k) x) p nh nt := by
  have hnh := h.hnh
  refine h.schg (fun g h1 _ _ _ => tup_n h1) (fun j h1 _ _ _ => pk_un (by omega)) (fun i hi => ?_) (fun j hj => ?_) (fun d hd => ?_) ?_ ?_
  · by_cases z : i = k
    · subst z; rw [pk_us]; exact hx
    · rw [pk_un (by omega)]; exact (h.hs hi).2.2.2.2.2.2.2.2
  · rw [tup_s, pk_us, hv j hj]
    by_cases z : j = k
    · subst z; rw [if_pos rfl]; dsimp only; rw [pk_us]; simp [hk]
    · rw [if_neg z, h.b5 j hj]
      dsimp only
      by_cases y : j < nh
      · rw [pk_un (by omega)]
      · simp [y]
  · rw [tup_n (by decide), pk_un (by omega)]; exact h.ri hd
  · rw [tup_n (by decide), pk_un (by omega)]; exact h.lv
  · rw [tup_n (by decide), pk_un (by omega)]; exact h.da
theorem RP.set15 (h : RP T f p nh nt) {v : Int32} (hv : rg v 0 20) : RP (tup T 15 0 v) (upd f (p + 68) v) p nh nt := by
  have hnh := h.hnh
  refine h.schg (fun g _ _ h1 _ => tup_n h1) (fun j _ _ h1 _ => pk_un h1) (fun i hi => ?_) (fun j hj => ?_) (fun d hd => ?_) ?_ ?_
  · rw [pk_un (by omega)]; exact (h.hs hi).2.2.2.2.2.2.2.2
  · rw [tup_n (by decide), h.b5 j hj]
    dsimp only
    by_cases y : j < nh
    · rw [pk_un (by omega)]
    · simp [y]
  · rw [tup_n (by decide), pk_un (by omega)]; exact h.ri hd
  · rw [tup_s, pk_us, pk_us]; exact ⟨rfl, hv⟩
  · rw [tup_n (by decide), pk_un (by omega)]; exact h.da
theorem RP.set16 (h : RP T f p nh nt) {v : Int32} : RP (tup T 16 0 v) (upd f (p + 69) v) p nh nt := by
  have hnh := h.hnh
  refine h.schg (fun g _ _ _ h1 => tup_n h1) (fun j _ _ _ h1 => pk_un h1) (fun i hi => ?_) (fun j hj => ?_) (fun d hd => ?_) ?_ ?_
  · rw [pk_un (by omega)]; exact (h.hs hi).2.2.2.2.2.2.2.2
  · rw [tup_n (by decide), h.b5 j hj]
    dsimp only
    by_cases y : j < nh
    · rw [pk_un (by omega)]
    · simp [y]
  · rw [tup_n (by decide), pk_un (by omega)]; exact h.ri hd
  · rw [tup_n (by decide), pk_un (by omega)]; exact h.lv
  · rw [tup_s, pk_us, pk_us]
theorem RP.set13 (h : RP T f p nh nt) {k : Nat} (hk : k < 7) {v x : Int32} (hv : rg v 0 8) (hx : v = x + 4) : RP (tup T 13 k v) (upd f (p + 60 + k) x) p nh nt := by
  have hnh := h.hnh
  refine h.schg (fun g _ h1 _ _ => tup_n h1) (fun j _ h1 _ _ => pk_un (by omega)) (fun i hi => ?_) (fun j hj => ?_) (fun d hd => ?_) ?_ ?_
  · rw [pk_un (by omega)]; exact (h.hs hi).2.2.2.2.2.2.2.2
  · rw [tup_n (by decide), h.b5 j hj]
    dsimp only
    by_cases y : j < nh
    · rw [pk_un (by omega)]
    · simp [y]
  · rw [tup_s]
    by_cases z : d = k
    · subst z; rw [pk_us, pk_us]; exact ⟨hx, hv⟩
    · rw [pk_un z, pk_un (by omega)]; exact h.ri hd
  · rw [tup_n (by decide), pk_un (by omega)]; exact h.lv
  · rw [tup_n (by decide), pk_un (by omega)]; exact h.da
-- numbers
theorem i32_44 (x y : Int32) : x + (y + 4) - 4 = x + y := by rw [← Int32.add_assoc, Int32.add_sub_cancel]
theorem bd_eq (x m : Int32) (hm : 0 < m) : bdI x m = if 0 ≤ x then (if x ≤ m then x else m) else 0 := by
  unfold bdI
  rw [Int32.lt_iff_toInt_lt, ti0] at hm
  by_cases a : x < m
  · rw [if_pos a]
    by_cases b : 0 < x
    · rw [if_pos b, if_pos, if_pos]
      · rw [Int32.le_iff_toInt_le]; rw [Int32.lt_iff_toInt_lt] at a; omega
      · rw [Int32.le_iff_toInt_le]; rw [Int32.lt_iff_toInt_lt] at b; omega
    · rw [if_neg b]
      by_cases c : 0 ≤ x
      · have e : x = 0 := by
          apply Int32.toInt_inj.mp
          rw [Int32.le_iff_toInt_le, ti0] at c
          rw [Int32.lt_iff_toInt_lt, ti0] at b
          rw [ti0]; omega
        rw [if_pos c, e, if_pos]
        rw [Int32.le_iff_toInt_le, ti0]; omega
      · rw [if_neg c]
  · rw [if_neg a, if_pos (by rw [Int32.lt_iff_toInt_lt, ti0]; exact hm)]
    rw [Int32.lt_iff_toInt_lt] at a
    rw [if_pos (by rw [Int32.le_iff_toInt_le, ti0]; omega)]
    by_cases c : x ≤ m
    · rw [if_pos c]
      apply Int32.toInt_inj.mp
      rw [Int32.le_iff_toInt_le] at c
      omega
    · rw [if_neg c]
theorem bd_rg (x : Int32) {m : Int32} {k : Nat} (hm : m.toInt = k) : rg (if 0 ≤ x then (if x ≤ m then x else m) else 0) 0 k := by
  unfold rg
  by_cases a : 0 ≤ x
  · rw [if_pos a]
    rw [Int32.le_iff_toInt_le, ti0] at a
    by_cases b : x ≤ m
    · rw [if_pos b]; rw [Int32.le_iff_toInt_le] at b; omega
    · rw [if_neg b]; omega
  · rw [if_neg a, ti0]; omega
theorem RP.house (h : RP T f p nh nt) {k : Nat} (hk : k < nh) {wd : Int32} (hw : wd = f (p + 67) + 4) : RP (phT T (nI k) k nt wd) (dhM f p (f (p + 68)) k nt) p nh nt := by
  have hnh := h.hnh
  have hnt := h.hnt
  have hl := h.lv
  have hh := h.hs hk
  rw [phT, dhM, hl.1, hh.1]
  have sh1 : ∀ j, j < 32 → bt (1 <<< (nI k &&& 31)) j = decide (j = k) := fun j hj => bt_shl1 (by omega) hj
  by_cases z : f (p + k) < f (p + 68)
  · rw [if_pos z, if_neg (Int32.not_le.mpr z)]
    -- what ph1 does
    have key : ∀ (T1 : gT) (g : Nat → Int32), RP T1 g p nh nt → g (p + 67) = f (p + 67) → RP (ph1 T1 (nI k) k nt wd) (floM g p (nI k) k nt) p nh nt := by
      intro T1 g h1 hg
      have hk1 := h1.hs hk
      have r2 := hk1.2.2.2.2.2.1
      have r3 := hk1.2.2.2.2.2.2.1
      unfold rg at r2 r3
      have ed : (T1 2 k - T1 3 k).toInt = (T1 2 k).toInt - (T1 3 k).toInt := ti_sub (by omega) (by omega)
      have er : (if 0 < T1 2 k - T1 3 k then T1 2 k - T1 3 k else 0) = if 0 ≤ g (p + 4 + k) - g (p + 8 + k) then g (p + 4 + k) - g (p + 8 + k) else 0 := by
        rw [← hk1.2.1, ← hk1.2.2.1]
        by_cases a : 0 < T1 2 k - T1 3 k
        · rw [if_pos a, if_pos]; rw [Int32.lt_iff_toInt_lt] at a; rw [Int32.le_iff_toInt_le]; omega
        · rw [if_neg a]
          by_cases b : 0 ≤ T1 2 k - T1 3 k
          · rw [if_pos b]
            apply Int32.toInt_inj.mp
            rw [Int32.lt_iff_toInt_lt, ti0] at a
            rw [Int32.le_iff_toInt_le, ti0] at b
            rw [ti0]; omega
          · rw [if_neg b]
      have hr : rg (if 0 < T1 2 k - T1 3 k then T1 2 k - T1 3 k else 0) 0 40 := by
        unfold rg
        by_cases a : 0 < T1 2 k - T1 3 k
        · rw [if_pos a, ed]; rw [Int32.lt_iff_toInt_lt, ed, ti0] at a; omega
        · rw [if_neg a, ti0]; omega
      have h2 := h1.set2 hk hr
      have h3 := lw_rel hk nt _ _ (fdT (tup T1 2 k (if 0 < T1 2 k - T1 3 k then T1 2 k - T1 3 k else 0)) (nI k) nt) h2 (Nat.le_refl _) rfl
      rw [er] at h3
      have hb : ∀ (T2 : gT) (g2 : Nat → Int32), RP T2 g2 p nh nt → g2 (p + 67) = f (p + 67) → RP (tup T2 4 k (bdI (T2 4 k + wd - 4) 99)) (plM g2 p k) p nh nt := by
        intro T2 g2 h4 hg2
        have hk4 := h4.hs hk
        rw [plM, bd_eq _ _ (by decide), hw, i32_44, hk4.2.2.2.1, hg2]
        exact h4.set4 hk (bd_rg _ ti99)
      rw [ph1, floM, er]
      refine hb _ _ h3 ?_
      rw [flwM_n (by omega) (by omega) nt _ hnt, pk_un (by omega), hg]
    by_cases a : f (p + 16 + k) = 1
    · have e0 : ¬ f (p + 16 + k) = 0 := by rw [a]; decide
      rw [if_pos (by rw [h.afl hk, a]; decide), if_neg e0]
      refine key T _ ?_ (by rw [pk_un (by omega)])
      refine h.out (fun i hi => ?_)
      by_cases y : p + i = p + 16 + k
      · rw [y, pk_us, a]
      · rw [pk_un y]
    · have e0 : f (p + 16 + k) = 0 := (hh.2.2.2.2.2.2.2.2).resolve_right a
      rw [if_neg (by rw [h.afl hk]; simp [a]), if_pos e0]
      refine key _ _ ?_ (by rw [pk_un (by omega), dlM_n (by omega) (by omega) nt hnt])
      refine (h.loseOut (nI k) nt (Nat.le_refl _)).set5 hk (Or.inr rfl) (fun j hj => ?_)
      rw [b_or, sh1 j hj]
      by_cases y : j = k
      · rw [if_pos y]; simp [y]
      · rw [if_neg y]; simp [y]
  · rw [if_neg z, if_pos (Int32.not_lt.mp z)]
    refine h.set5 hk (Or.inl rfl) (fun j hj => ?_)
    rw [b_and, bt_not _ hj, sh1 j hj]
    by_cases y : j = k
    · rw [if_pos y]; simp [y]
    · rw [if_neg y]; simp [y]
theorem RP.houses (h : RP T f p nh nt) {wd : Int32} (hw : wd = f (p + 67) + 4) : ∀ k, k ≤ nh → RP (phs nt wd T k) (dhsM p (f (p + 68)) nt f k) p nh nt
  | 0, _ => h
  | k + 1, hk => by
    have hnh := h.hnh
    have hnt := h.hnt
    have ih := RP.houses h hw k (by omega)
    have e67 : dhsM p (f (p + 68)) nt f k (p + 67) = f (p + 67) := dhsM_n hnt (by unfold inD; omega) k (by omega)
    have e68 : dhsM p (f (p + 68)) nt f k (p + 68) = f (p + 68) := dhsM_69 hnt (Or.inl rfl) k (by omega)
    have := ih.house (k := k) (by omega) (wd := wd) (by rw [e67]; exact hw)
    rw [e68] at this
    exact this
theorem RP.day (h : RP T f p nh nt) {ri x wd : Int32} (hx : x = ri + 4) (hw : wd = f (p + 67) + 4) : RP (pdT T x wd nh nt) (dayM f p ri nh nt) p nh nt := by
  have hnh := h.hnh
  have hnt := h.hnt
  have e : bdI (T 15 0 + x - 4) 20 = lvM (f (p + 68) + ri) := by rw [bd_eq _ _ (by decide), hx, i32_44, h.lv.1, lvM]
  have h1 : RP (tup T 15 0 (lvM (f (p + 68) + ri))) (upd f (p + 68) (lvM (f (p + 68) + ri))) p nh nt := h.set15 (by rw [lvM]; exact bd_rg _ ti20)
  have h2 := h1.houses (wd := wd) (by rw [pk_un (by omega)]; exact hw) nh (Nat.le_refl _)
  rw [pk_us] at h2
  have h3 := h2.set16 (v := phs nt wd (tup T 15 0 (lvM (f (p + 68) + ri))) nh 16 0 + 1)
  rw [h2.da] at h3
  rw [pdT, dayM, dymM, e]
  rw [h2.da]
  exact h3
theorem RP.w67 {ri : Int32} (hnh : nh ≤ 4) (hnt : nt ≤ 8) : dayM f p ri nh nt (p + 67) = f (p + 67) := dayM_n hnh hnt (by unfold inD; omega)
/-- with the wind -/
def RQ (T : gT) (f : Nat → Int32) (p nh nt dd : Nat) : Prop := RP T f p nh nt ∧ T 14 0 = f (p + 67) + 4 ∧ rg (T 14 0) 0 8 ∧ T 16 0 = nI dd
theorem RQ.dy {dd : Nat} (h : RQ T f p nh nt dd) : RQ (dyT T dd nh nt) (dyM f p dd nh nt) p nh nt (dd + 1) := by
  have hnh := h.1.hnh
  have hnt := h.1.hnt
  have hm := Nat.mod_lt dd (show 0 < 7 by decide)
  refine ⟨h.1.day (h.1.ri hm).1 h.2.1, ?_, ?_, ?_⟩
  · rw [dyT_n (by decide) (by decide) (by decide) (by decide) (by decide) (by decide) (by decide) (by decide), dyM, RP.w67 hnh hnt]; exact h.2.1
  · rw [dyT_n (by decide) (by decide) (by decide) (by decide) (by decide) (by decide) (by decide) (by decide)]; exact h.2.2.1
  · rw [dyT, pdT_16, h.2.2.2, ← nI_succ]
theorem RQ.dys {dd : Nat} (h : RQ T f p nh nt dd) : ∀ k, RQ (dysT T dd nh nt k) (dysM f p dd nh nt k) p nh nt (dd + k)
  | 0 => h
  | k + 1 => (RQ.dys h k).dy
theorem RQ.move {g : Nat → Int32} {c dd : Nat} (h : RQ T f p nh nt dd) (hg : ∀ i, i < 71 → g (c + i) = f (p + i)) : RQ T g c nh nt dd := ⟨h.1.move hg, by rw [hg 67 (by decide)]; exact h.2.1, h.2.2⟩
theorem RQ.cpy {c dd : Nat} (h : RQ T f p nh nt dd) (hd : p + 71 ≤ c ∨ c + 71 ≤ p) : RQ T (cpyM f p c 71) c nh nt dd := h.move (fun _ hi => cpyM_in hd hi)
theorem RQ.g {dd : Nat} (h : RQ T f p nh nt dd) (hd : p + 71 ≤ 284 ∨ 355 ≤ p) (k : Nat) : RQ (dysT T dd nh nt k) (gM f p dd nh nt k) 284 nh nt (dd + k) := (h.cpy (c := 284) (by omega)).dys k
-- what is read off a page
theorem RP.af (h : RP T f p nh nt) : afM f p nh = T 5 0 := by
  have key : ∀ k, k ≤ nh → ∀ j, j < 32 → bt (afM f p k) j = (decide (j < k) && decide (f (p + 16 + j) = 1)) := by
    intro k
    induction k with
    | zero => intro _ j _; rw [afM, b_0]; simp
    | succ k ih =>
      intro hk j hj
      have hnh := h.hnh
      rw [afM, b_or, ih (by omega) j hj, b_shl k (by omega) _ hj]
      have h16 := (h.hs (k := k) (by omega)).2.2.2.2.2.2.2.2
      by_cases z : j = k
      · subst z
        rcases h16 with e | e
        · rw [e, Nat.sub_self, b_0]; simp
        · rw [e, Nat.sub_self]; simp; decide
      · have e : decide (j < k + 1) = decide (j < k) := by
          by_cases y : j < k
          · simp [y]; omega
          · have : ¬ j < k + 1 := by omega
            simp [y, this]
        rw [e]
        by_cases y : k ≤ j
        · have : bt (f (p + 16 + k)) (j - k) = false := by
            rcases h16 with q | q
            · rw [q, b_0]
            · rw [q, bt_1 _ (by omega)]; simp; omega
          rw [this]; simp
        · simp [y]
  refine b_ext (fun j hj => ?_)
  rw [key nh (Nat.le_refl _) j hj, h.b5 j hj]
theorem RP.th (h : RP T f p nh nt) (s : Int32) : ∀ k, k ≤ nt → ∀ j, j < 32 → bt (thM f p s k) j = (decide (j < k) && decide (f (p + 52 + j) = s))
  | 0, _, j, _ => by rw [thM, b_0]; simp
  | k + 1, hk, j, hj => by
    have hnt := h.hnt
    rw [thM, b_or, RP.th h s k (by omega) j hj]
    by_cases z : j = k
    · subst z
      by_cases a : f (p + 52 + j) = s
      · rw [if_pos a, bt_shl1 (by omega) hj]; simp [a]
      · rw [if_neg a, b_0]; simp [a]
    · have e : decide (j < k + 1) = decide (j < k) := by
        by_cases y : j < k
        · simp [y]; omega
        · have : ¬ j < k + 1 := by omega
          simp [y, this]
      rw [e]
      by_cases a : f (p + 52 + k) = s
      · rw [if_pos a, bt_shl1 (by omega) hj]; simp [z]
      · rw [if_neg a, b_0]; simp
theorem RP.th1 (h : RP T f p nh nt) : thM f p 1 nt = T 11 0 := b_ext (fun j hj => by rw [h.th 1 nt (Nat.le_refl _) j hj, h.b11 j hj])
theorem RP.th2 (h : RP T f p nh nt) : thM f p 2 nt = T 12 0 := b_ext (fun j hj => by rw [h.th 2 nt (Nat.le_refl _) j hj, h.b12 j hj])
theorem RP.oh (h : RP T f p nh nt) (x : Int32) : ∀ k, k ≤ nt → ohM f p x k = thsT T x k
  | 0, _ => rfl
  | k + 1, hk => by rw [ohM, thsT, RP.oh h x k (by omega), (h.is (k := k) (by omega)).2.1]
end REL3
