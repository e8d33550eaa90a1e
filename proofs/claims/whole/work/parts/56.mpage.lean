def PGh (g : Nat → Int32) (D : gT) (nh : Nat) : Prop := ∀ h, h < nh → D 1 h = g h ∧ D 2 h = g (4 + h) ∧ D 3 h = g (8 + h) ∧ D 4 h = g (12 + h) ∧ rg (D 1 h) 0 20 ∧ rg (D 2 h) 0 40 ∧ rg (D 3 h) 0 3 ∧ rg (D 4 h) 0 99
def PGi (g : Nat → Int32) (D : gT) (nt : Nat) : Prop := ∀ i, i < nt → D 7 i = g (20 + i) ∧ D 8 i = g (28 + i) ∧ D 9 i = g (36 + i) ∧ D 10 i = g (44 + i) ∧ rg (D 7 i) 0 3 ∧ (∃ h, h < 4 ∧ D 8 i = nI h) ∧ rg (D 9 i) 1 9 ∧ rg (D 10 i) 0 9
def PGz (g : Nat → Int32) : Prop := ∀ k, (16 ≤ k ∧ k < 20) ∨ (52 ≤ k ∧ k < 60) ∨ k = 69 ∨ k = 70 → g k = 0
def PGb (D : gT) : Prop := D 5 0 = 0 ∧ D 11 0 = 0 ∧ D 12 0 = 0 ∧ D 16 0 = 0 ∧ D 17 0 = 0
def PGr (g : Nat → Int32) (D : gT) : Prop := (∀ d, d < 7 → D 13 d = g (60 + d) + 4 ∧ rg (D 13 d) 0 8) ∧ (D 14 0 = g 67 + 4 ∧ rg (D 14 0) 0 8) ∧ (D 15 0 = g 68 ∧ rg (D 15 0) 0 20)
def PG (g : Nat → Int32) (D : gT) (nh nt : Nat) : Prop := nh ≤ 4 ∧ nt ≤ 8 ∧ D 0 0 = nI nh ∧ D 6 0 = nI nt ∧ PGh g D nh ∧ PGi g D nt ∧ PGz g ∧ PGb D ∧ PGr g D
section PGS
variable {g : Nat → Int32} {D : gT} {nh nt : Nat}
theorem rg_k {z : Int32} {b : Nat} (h : inI z 0 (nI b) = true) (hb : b < 2 ^ 31) : rg z 0 b := rg_in (a := 0) h (by decide) hb
theorem PG.house (h : PG g D nh nt) (hn : nh < 4) {x y z : Int32} (hx : inI x 0 20 = true) (hy : inI y 0 40 = true) (hz : inI z 0 3 = true) : PG (upd (upd (upd (upd g nh x) (4 + nh) y) (8 + nh) z) (12 + nh) 50) (ahT D nh x y z) (nh + 1) nt := by
  obtain ⟨h4, h8, h0, h6, hh, hi, hz0, hb, hr⟩ := h
  have e : ∀ k, k ≠ nh → k ≠ 4 + nh → k ≠ 8 + nh → k ≠ 12 + nh → upd (upd (upd (upd g nh x) (4 + nh) y) (8 + nh) z) (12 + nh) 50 k = g k := fun k a b c d => by rw [pk_un d, pk_un c, pk_un b, pk_un a]
  refine ⟨by omega, h8, ?_, h6, fun k hk => ?_, fun i hi9 => ?_, fun k hk => ?_, hb, ?_, ?_, ?_⟩
  · show D 0 0 + 1 = _; rw [h0, nI_succ]
  · by_cases z9 : k = nh
    · subst z9
      show upd (D 1) k x k = _ ∧ upd (D 2) k y k = _ ∧ upd (D 3) k z k = _ ∧ upd (D 4) k 50 k = _ ∧ rg (upd (D 1) k x k) 0 20 ∧ rg (upd (D 2) k y k) 0 40 ∧ rg (upd (D 3) k z k) 0 3 ∧ rg (upd (D 4) k 50 k) 0 99
      rw [pk_us, pk_us, pk_us, pk_us, pk_us, pk_un (j := 8 + k) (by omega), pk_us, pk_un (j := 4 + k) (by omega), pk_un (j := 4 + k) (by omega), pk_us, pk_un (j := k) (by omega), pk_un (j := k) (by omega), pk_un (j := k) (by omega), pk_us]
      exact ⟨rfl, rfl, rfl, rfl, rg_k (b := 20) hx (by decide), rg_k (b := 40) hy (by decide), rg_k (b := 3) hz (by decide), by unfold rg; decide⟩
    · show upd (D 1) nh x k = _ ∧ upd (D 2) nh y k = _ ∧ upd (D 3) nh z k = _ ∧ upd (D 4) nh 50 k = _ ∧ rg (upd (D 1) nh x k) 0 20 ∧ rg (upd (D 2) nh y k) 0 40 ∧ rg (upd (D 3) nh z k) 0 3 ∧ rg (upd (D 4) nh 50 k) 0 99
      rw [pk_un z9, pk_un z9, pk_un z9, pk_un z9, e k (by omega) (by omega) (by omega) (by omega), e (4 + k) (by omega) (by omega) (by omega) (by omega), e (8 + k) (by omega) (by omega) (by omega) (by omega), e (12 + k) (by omega) (by omega) (by omega) (by omega)]
      exact hh k (by omega)
  · rw [e (20 + i) (by omega) (by omega) (by omega) (by omega), e (28 + i) (by omega) (by omega) (by omega) (by omega), e (36 + i) (by omega) (by omega) (by omega) (by omega), e (44 + i) (by omega) (by omega) (by omega) (by omega)]
    exact hi i hi9
  · rw [e k (by omega) (by omega) (by omega) (by omega)]; exact hz0 k hk
  · intro d hd; rw [e (60 + d) (by omega) (by omega) (by omega) (by omega)]; exact hr.1 d hd
  · rw [e 67 (by omega) (by omega) (by omega) (by omega)]; exact hr.2.1
  · rw [e 68 (by omega) (by omega) (by omega) (by omega)]; exact hr.2.2
theorem PG.thing (h : PG g D nh nt) (hn : nt < 8) {wd : Nat} (hw : wd < 4) {x y z : Int32} (hx : inI x 0 3 = true) (hy : inI y 1 9 = true) (hz : inI z 0 9 = true) : PG (upd (upd (upd (upd g (20 + nt) (nI wd)) (28 + nt) x) (36 + nt) y) (44 + nt) z) (atT D nt (nI wd) x y z) nh (nt + 1) := by
  obtain ⟨h4, h8, h0, h6, hh, hi, hz0, hb, hr⟩ := h
  have e : ∀ k, k ≠ 20 + nt → k ≠ 28 + nt → k ≠ 36 + nt → k ≠ 44 + nt → upd (upd (upd (upd g (20 + nt) (nI wd)) (28 + nt) x) (36 + nt) y) (44 + nt) z k = g k := fun k a b c d => by rw [pk_un d, pk_un c, pk_un b, pk_un a]
  refine ⟨h4, by omega, h0, ?_, fun k hk => ?_, fun i hi9 => ?_, fun k hk => ?_, hb, ?_, ?_, ?_⟩
  · show D 6 0 + 1 = _; rw [h6, nI_succ]
  · rw [e k (by omega) (by omega) (by omega) (by omega), e (4 + k) (by omega) (by omega) (by omega) (by omega), e (8 + k) (by omega) (by omega) (by omega) (by omega), e (12 + k) (by omega) (by omega) (by omega) (by omega)]
    exact hh k hk
  · by_cases z9 : i = nt
    · subst z9
      show upd (D 7) i (nI wd) i = _ ∧ upd (D 8) i x i = _ ∧ upd (D 9) i y i = _ ∧ upd (D 10) i z i = _ ∧ rg (upd (D 7) i (nI wd) i) 0 3 ∧ (∃ h, h < 4 ∧ upd (D 8) i x i = nI h) ∧ rg (upd (D 9) i y i) 1 9 ∧ rg (upd (D 10) i z i) 0 9
      rw [pk_us, pk_us, pk_us, pk_us, pk_us, pk_un (j := 36 + i) (by omega), pk_us, pk_un (j := 28 + i) (by omega), pk_un (j := 28 + i) (by omega), pk_us, pk_un (j := 20 + i) (by omega), pk_un (j := 20 + i) (by omega), pk_un (j := 20 + i) (by omega), pk_us]
      obtain ⟨d, hd, e9⟩ := inI_k (k := 3) hx (by decide)
      exact ⟨rfl, rfl, rfl, rfl, rg_of (m := 3) (by omega) (by decide), ⟨d, by omega, e9⟩, rg_in (a := 1) (b := 9) hy (by decide) (by decide), rg_k (b := 9) hz (by decide)⟩
    · show upd (D 7) nt (nI wd) i = _ ∧ upd (D 8) nt x i = _ ∧ upd (D 9) nt y i = _ ∧ upd (D 10) nt z i = _ ∧ rg (upd (D 7) nt (nI wd) i) 0 3 ∧ (∃ h, h < 4 ∧ upd (D 8) nt x i = nI h) ∧ rg (upd (D 9) nt y i) 1 9 ∧ rg (upd (D 10) nt z i) 0 9
      rw [pk_un z9, pk_un z9, pk_un z9, pk_un z9, e (20 + i) (by omega) (by omega) (by omega) (by omega), e (28 + i) (by omega) (by omega) (by omega) (by omega), e (36 + i) (by omega) (by omega) (by omega) (by omega), e (44 + i) (by omega) (by omega) (by omega) (by omega)]
      exact hi i (by omega)
  · rw [e k (by omega) (by omega) (by omega) (by omega)]; exact hz0 k hk
  · intro d hd; rw [e (60 + d) (by omega) (by omega) (by omega) (by omega)]; exact hr.1 d hd
  · rw [e 67 (by omega) (by omega) (by omega) (by omega)]; exact hr.2.1
  · rw [e 68 (by omega) (by omega) (by omega) (by omega)]; exact hr.2.2
/-- a page that differs in one place behind 59 -/
theorem PG.one (h : PG g D nh nt) {D' : gT} {p : Nat} {v : Int32} (hp : 60 ≤ p ∧ p < 69) (hD : ∀ s, s ≠ 13 → s ≠ 14 → s ≠ 15 → D' s = D s) (hr : PGr (upd g p v) D') : PG (upd g p v) D' nh nt := by
  obtain ⟨h4, h8, h0, h6, hh, hi, hz0, hb, -⟩ := h
  have e : ∀ k, k < 60 ∨ k = 69 ∨ k = 70 → upd g p v k = g k := fun k hk => pk_un (by omega)
  refine ⟨h4, h8, by rw [hD 0 (by decide) (by decide) (by decide)]; exact h0, by rw [hD 6 (by decide) (by decide) (by decide)]; exact h6, fun k hk => ?_, fun i hi9 => ?_, fun k hk => ?_, ?_, hr⟩
  · rw [hD 1 (by decide) (by decide) (by decide), hD 2 (by decide) (by decide) (by decide), hD 3 (by decide) (by decide) (by decide), hD 4 (by decide) (by decide) (by decide), e k (by omega), e (4 + k) (by omega), e (8 + k) (by omega), e (12 + k) (by omega)]
    exact hh k hk
  · rw [hD 7 (by decide) (by decide) (by decide), hD 8 (by decide) (by decide) (by decide), hD 9 (by decide) (by decide) (by decide), hD 10 (by decide) (by decide) (by decide), e (20 + i) (by omega), e (28 + i) (by omega), e (36 + i) (by omega), e (44 + i) (by omega)]
    exact hi i hi9
  · rw [e k (by omega)]; exact hz0 k hk
  · unfold PGb
    rw [hD 5 (by decide) (by decide) (by decide), hD 11 (by decide) (by decide) (by decide), hD 12 (by decide) (by decide) (by decide), hD 16 (by decide) (by decide) (by decide), hD 17 (by decide) (by decide) (by decide)]
    exact hb
theorem PG.rise (h : PG g D nh nt) {d : Nat} (hd : d < 7) {y : Int32} (hy : inI y 0 8 = true) : PG (upd g (60 + d) (y - 4)) (tup D 13 d y) nh nt := by
  refine h.one (by omega) (fun s h1 _ _ => tup_n h1) ⟨fun k hk => ?_, ?_, ?_⟩
  · rw [tup_s]
    by_cases e : k = d
    · subst e; rw [pk_us, pk_us, Int32.sub_add_cancel]; exact ⟨rfl, rg_k (b := 8) hy (by decide)⟩
    · rw [pk_un e, pk_un (by omega)]; exact h.2.2.2.2.2.2.2.2.1 k hk
  · rw [pk_un (by omega), tup_n (by decide)]; exact h.2.2.2.2.2.2.2.2.2.1
  · rw [pk_un (by omega), tup_n (by decide)]; exact h.2.2.2.2.2.2.2.2.2.2
theorem PG.wind (h : PG g D nh nt) {y : Int32} (hy : inI y 0 8 = true) : PG (upd g 67 (y - 4)) (tup D 14 0 y) nh nt := by
  refine h.one (by omega) (fun s _ h1 _ => tup_n h1) ⟨fun k hk => ?_, ?_, ?_⟩
  · rw [tup_n (by decide), pk_un (by omega)]; exact h.2.2.2.2.2.2.2.2.1 k hk
  · rw [tup_s, pk_us, pk_us, Int32.sub_add_cancel]; exact ⟨rfl, rg_k (b := 8) hy (by decide)⟩
  · rw [pk_un (by omega), tup_n (by decide)]; exact h.2.2.2.2.2.2.2.2.2.2
theorem PG.level (h : PG g D nh nt) {y : Int32} (hy : inI y 0 20 = true) : PG (upd g 68 y) (tup D 15 0 y) nh nt := by
  refine h.one (by omega) (fun s _ _ h1 => tup_n h1) ⟨fun k hk => ?_, ?_, ?_⟩
  · rw [tup_n (by decide), pk_un (by omega)]; exact h.2.2.2.2.2.2.2.2.1 k hk
  · rw [pk_un (by omega), tup_n (by decide)]; exact h.2.2.2.2.2.2.2.2.2.1
  · rw [tup_s, pk_us, pk_us]; exact ⟨rfl, rg_k (b := 20) hy (by decide)⟩
theorem PG.tell (h : PG g D nh nt) {wd : Nat} (hw : wd < 8) (h4 : wd = 4 → nh < 4) (h8 : wd < 4 → nt < 8) {v : List Int32} (hv : ∀ j, j < (moL wd).length → inI (v.getD j 0) ((leL wd).getD j 0) ((moL wd).getD j 0) = true) : PG (pgU g nh nt wd v) (tlT D nh nt wd (v.getD 0 0) (v.getD 1 0) (v.getD 2 0)) (if wd = 4 then nh + 1 else nh) (if wd < 4 then nt + 1 else nt) := by
  match wd, hw, h4, h8, hv with
  | 0, _, _, h8, hv => exact h.thing (h8 (by decide)) (wd := 0) (by decide) (hv 0 (by decide)) (hv 1 (by decide)) (hv 2 (by decide))
  | 1, _, _, h8, hv => exact h.thing (h8 (by decide)) (wd := 1) (by decide) (hv 0 (by decide)) (hv 1 (by decide)) (hv 2 (by decide))
  | 2, _, _, h8, hv => exact h.thing (h8 (by decide)) (wd := 2) (by decide) (hv 0 (by decide)) (hv 1 (by decide)) (hv 2 (by decide))
  | 3, _, _, h8, hv => exact h.thing (h8 (by decide)) (wd := 3) (by decide) (hv 0 (by decide)) (hv 1 (by decide)) (hv 2 (by decide))
  | 4, _, h4, _, hv => exact h.house (h4 rfl) (hv 0 (by decide)) (hv 1 (by decide)) (hv 2 (by decide))
  | 5, _, _, _, hv =>
    obtain ⟨d, hd, e⟩ := inI_k (k := 6) (hv 0 (by decide)) (by decide)
    have hc : (v.getD 0 0).toNatClampNeg = d := by rw [e, nI_clamp (by omega)]
    have := h.rise (d := d) (by omega) (hv 1 (by decide))
    rw [← hc] at this
    exact this
  | 6, _, _, _, hv => exact h.wind (hv 0 (by decide))
  | 7, _, _, _, hv => exact h.level (hv 0 (by decide))
theorem PG.rq (h : PG g D nh nt) (hh9 : hhT D nt = true) : RQ D g 0 nh nt 0 := by
  obtain ⟨h4, h8, h0, h6, hh, hi, hz0, hb, hr⟩ := h
  have z : ∀ k, (16 ≤ k ∧ k < 20) ∨ (52 ≤ k ∧ k < 60) ∨ k = 69 ∨ k = 70 → g (0 + k) = 0 := fun k hk => by rw [Nat.zero_add]; exact hz0 k hk
  refine ⟨⟨h4, h8, h0, h6, fun k hk => ?_, fun i hi9 => ?_, fun k hk => ?_, fun k hk => ?_, fun k hk => ?_, fun d hd => ?_, ?_, hr.2.2.2, ?_, ?_, ?_⟩, ?_, hr.2.1.2, hb.2.2.2.1⟩
  · unfold RH
    rw [Nat.zero_add, Nat.zero_add, Nat.zero_add, Nat.zero_add, Nat.zero_add]
    have := hh k hk
    exact ⟨this.1, this.2.1, this.2.2.1, this.2.2.2.1, this.2.2.2.2.1, this.2.2.2.2.2.1, this.2.2.2.2.2.2.1, this.2.2.2.2.2.2.2, Or.inl (hz0 (16 + k) (by omega))⟩
  · unfold RI
    rw [Nat.zero_add, Nat.zero_add, Nat.zero_add, Nat.zero_add, Nat.zero_add]
    have := hi i hi9
    have hm := of_decide_eq_true (show decide (inI (D 8 i) 0 (D 0 0 - 1) = true) = true from by simpa using List.all_eq_true.mp hh9 i (List.mem_range.mpr hi9))
    rw [h0] at hm
    obtain ⟨j, hj, e⟩ := inI_ix hm (by omega)
    exact ⟨this.1, this.2.1, this.2.2.1, this.2.2.2.1, this.2.2.2.2.1, ⟨j, hj, e⟩, this.2.2.2.2.2.2.1, this.2.2.2.2.2.2.2, Or.inl (hz0 (52 + i) (by omega))⟩
  · rw [hb.1, b_0]
    by_cases zz : k < nh
    · have e9 := hz0 (16 + k) (by omega); simp [e9]
    · simp [zz]
  · rw [hb.2.1, b_0]
    by_cases zz : k < nt
    · have e9 := hz0 (52 + k) (by omega); simp [e9]
    · simp [zz]
  · rw [hb.2.2.1, b_0]
    by_cases zz : k < nt
    · have e9 := hz0 (52 + k) (by omega); simp [e9]
    · simp [zz]
  · rw [Nat.zero_add]; exact hr.1 d hd
  · rw [Nat.zero_add]; exact hr.2.2.1
  · rw [z 69 (by omega)]; exact hb.2.2.2.1
  · rw [z 70 (by omega)]; exact hb.2.2.2.2
  · rw [hb.2.2.2.2]; unfold rg; decide
  · rw [Nat.zero_add]; exact hr.2.1.1
theorem PG.clear {D : gT} (hg : ∀ k, k < 71 → g k = 0) : PG g (clT D) 0 0 := by
  refine ⟨by decide, by decide, rfl, rfl, fun k hk => absurd hk (Nat.not_lt_zero k), fun k hk => absurd hk (Nat.not_lt_zero k), fun k hk => hg k (by omega), ⟨rfl, rfl, rfl, rfl, rfl⟩, fun d hd => ?_, ?_, ?_⟩
  · rw [hg _ (by omega)]
    show (4 : Int32) = 0 + 4 ∧ rg (4 : Int32) 0 8
    exact ⟨by decide, by unfold rg; decide⟩
  · rw [hg _ (by omega)]
    show (4 : Int32) = 0 + 4 ∧ rg (4 : Int32) 0 8
    exact ⟨by decide, by unfold rg; decide⟩
  · rw [hg _ (by omega)]
    show (0 : Int32) = 0 ∧ rg (0 : Int32) 0 20
    exact ⟨rfl, by unfold rg; decide⟩
end PGS
def TP (top : Int32) (D : gT) (nt : Nat) : Prop := (nt = 0 ∧ top = -1) ∨ ∃ m, m < 4 ∧ top = nI m ∧ (∃ i, i < nt ∧ D 8 i = nI m) ∧ ∀ i, i < nt → ∃ h, h ≤ m ∧ D 8 i = nI h
theorem TP.add {top x : Int32} {D D' : gT} {nt : Nat} (h : TP top D nt) (hx : inI x 0 3 = true) (h8 : D' 8 = upd (D 8) nt x) : TP (if x ≤ top then top else x) D' (nt + 1) := by
  obtain ⟨d, hd, e⟩ := inI_k (k := 3) hx (by decide)
  subst e
  have en : D' 8 nt = nI d := by rw [h8, pk_us]
  have eo : ∀ i, i < nt → D' 8 i = D 8 i := fun i hi => by rw [h8, pk_un (by omega)]
  rcases h with ⟨hn, ht⟩ | ⟨m, hm, ht, ⟨i, hi, ei⟩, ha⟩
  · subst hn
    rw [ht, if_neg (fun z => by have := Int32.le_iff_toInt_le.mp z; rw [nI_toInt (by omega), show (-1 : Int32).toInt = -1 from by decide] at this; omega)]
    refine Or.inr ⟨d, by omega, rfl, ⟨0, by omega, en⟩, fun i hi => ⟨d, Nat.le_refl _, ?_⟩⟩
    rw [show i = 0 from by omega]; exact en
  · rw [ht]
    by_cases z : d ≤ m
    · rw [if_pos (nI_le z (by omega))]
      refine Or.inr ⟨m, hm, rfl, ⟨i, by omega, by rw [eo i hi]; exact ei⟩, fun j hj => ?_⟩
      by_cases e : j = nt
      · subst e; exact ⟨d, z, en⟩
      · rw [eo j (by omega)]; exact ha j (by omega)
    · rw [if_neg (nI_ge (by omega) (by omega))]
      refine Or.inr ⟨d, by omega, rfl, ⟨nt, by omega, en⟩, fun j hj => ?_⟩
      by_cases e : j = nt
      · subst e; exact ⟨d, Nat.le_refl _, en⟩
      · rw [eo j (by omega)]
        obtain ⟨h, hh, eh⟩ := ha j (by omega)
        exact ⟨h, by omega, eh⟩
theorem TP.same {top : Int32} {D D' : gT} {nt : Nat} (h : TP top D nt) (h8 : D' 8 = D 8) : TP top D' nt := by unfold TP at *; rw [h8]; exact h
theorem TP.hh {top : Int32} {D : gT} {nh nt : Nat} (h : TP top D nt) (h0 : D 0 0 = nI nh) (hn : nh ≤ 4) : hhT D nt = true ↔ top < nI nh := by
  unfold hhT
  rcases h with ⟨hn9, ht⟩ | ⟨m, hm, ht, ⟨i, hi, ei⟩, ha⟩
  · subst hn9
    rw [ht]
    refine ⟨fun _ => Int32.lt_iff_toInt_lt.mpr ?_, fun _ => rfl⟩
    rw [nI_toInt (by omega), show (-1 : Int32).toInt = -1 from by decide]; omega
  · rw [ht, nI_ltiff (by omega) (by omega), List.all_eq_true, h0]
    constructor
    · intro q
      have := q i (List.mem_range.mpr hi)
      rw [ei] at this
      obtain ⟨j, hj, e⟩ := inI_ix this (by omega)
      have := nI_ij (by omega) (by omega) e
      omega
    · intro q j hj
      obtain ⟨h, hh, eh⟩ := ha j (List.mem_range.mp hj)
      rw [eh]
      unfold inI
      rw [Bool.and_eq_true, decide_eq_true_eq, decide_eq_true_eq]
      refine ⟨nI_le (a := 0) (by omega) (by omega), ?_⟩
      rw [show (1 : Int32) = nI 1 from rfl, nI_sb (by omega)]
      exact nI_le (by omega) (by omega)
-- numbers
theorem chX_e {b : Nat → Int32} {tl wd : Nat} {e : Nat × Nat} : ∀ r k, chX b tl wd r k (.inl e) = .inl e
  | 0, _ => rfl
  | r + 1, k => by rw [chX]; exact chX_e r (k + 1)
def NR (b : Nat → Int32) (tl : Nat) (X : TX) (V : List Int32) : (Nat × Nat) ⊕ (List Int32 × Nat) → Prop
  | .inl e => X = .inl e
  | .inr s => X = tokF b tl s.2 ∧ V = s.1
theorem nm_ch {b : Nat → Int32} {tl wd : Nat} {dy : Int32} : ∀ (r k p : Nat), (wd = 5 → k ≠ 0) → NR b tl (chX b tl wd r k (tokF b tl p)) (chV b tl wd r k (tokF b tl p)) (nmF b tl wd dy r k p)
  | 0, k, p, _ => ⟨rfl, rfl⟩
  | r + 1, k, p, hk => by
    rw [nmF]
    cases ht : tokF b tl p with
    | inl e => exact chX_e (r + 1) k
    | inr q =>
      dsimp only
      by_cases h2 : q.1 = 2
      · rw [if_pos h2]
        by_cases hin : inI q.2.2.2 ((leL wd).getD k 0) ((moL wd).getD k 0) = true
        · rw [if_pos hin, if_neg (fun z => hk z.1 z.2.1)]
          have ex : numX b tl ((leL wd).getD k 0) ((moL wd).getD k 0) (.inr q) = tokF b tl q.2.2.1 := by rw [numX, if_pos h2, if_pos hin]
          have ev : numV ((leL wd).getD k 0) ((moL wd).getD k 0) (.inr q) = q.2.2.2 := by rw [numV, if_pos h2, if_pos hin]
          have ih := nm_ch (b := b) (tl := tl) (wd := wd) (dy := dy) r (k + 1) q.2.2.1 (fun _ => by omega)
          rw [chX, chV, ex, ev]
          cases hn : nmF b tl wd dy r (k + 1) q.2.2.1 with
          | inl e => rw [hn] at ih; exact ih
          | inr s => rw [hn] at ih; exact ⟨ih.1, by rw [ih.2]⟩
        · rw [if_neg hin]
          have ex : numX b tl ((leL wd).getD k 0) ((moL wd).getD k 0) (.inr q) = .inl (3, q.2.1) := by rw [numX, if_pos h2, if_neg hin]
          show chX b tl wd (r + 1) k (.inr q) = _
          rw [chX, ex]; exact chX_e _ _
      · rw [if_neg h2]
        have ex : numX b tl ((leL wd).getD k 0) ((moL wd).getD k 0) (.inr q) = .inl (2, q.2.1) := by rw [numX, if_neg h2]
        show chX b tl wd (r + 1) k (.inr q) = _
        rw [chX, ex]; exact chX_e _ _
theorem nm_rel {b : Nat → Int32} {tl wd : Nat} {dy : Int32} (p : Nat) : NR b tl (chX b tl wd (moL wd).length 0 (xw wd dy (tokF b tl p))) (chV b tl wd (moL wd).length 0 (xw wd dy (tokF b tl p))) (nmF b tl wd dy (moL wd).length 0 p) := by
  unfold xw
  by_cases h5 : wd = 5
  · rw [if_pos h5]
    subst h5
    show NR b tl (chX b tl 5 2 0 (rsX dy (tokF b tl p))) (chV b tl 5 2 0 (rsX dy (tokF b tl p))) (nmF b tl 5 dy 2 0 p)
    rw [nmF]
    cases ht : tokF b tl p with
    | inl e => exact chX_e 2 0
    | inr q =>
      dsimp only
      have h06 : (leL 5).getD 0 0 = 0 ∧ (moL 5).getD 0 0 = 6 := by decide
      rw [h06.1, h06.2, rsX]
      by_cases h2 : q.1 = 2
      · rw [if_pos h2, if_pos h2]
        by_cases hin : inI q.2.2.2 0 6 = true
        · rw [if_pos hin, if_pos hin]
          obtain ⟨d, hd, ed⟩ := inI_k (k := 6) hin (by decide)
          by_cases hb : (dy >>> (q.2.2.2 &&& 31)) &&& 1 = 1
          · have hb2 : btI dy q.2.2.2 = true := by rw [ed, btI_bt dy (by omega)]; rw [ed] at hb; exact (sh1_1 dy (by omega)).mp hb
            rw [if_pos hb, if_pos ⟨rfl, rfl, hb2⟩]
            exact chX_e 2 0
          · have hb2 : ¬ btI dy q.2.2.2 = true := fun z => hb (by rw [ed, btI_bt dy (by omega)] at z; rw [ed]; exact (sh1_1 dy (by omega)).mpr z)
            rw [if_neg hb, if_neg (fun z => hb2 z.2.2)]
            have ex : numX b tl ((leL 5).getD 0 0) ((moL 5).getD 0 0) (.inr q) = tokF b tl q.2.2.1 := by rw [h06.1, h06.2, numX, if_pos h2, if_pos hin]
            have ev : numV ((leL 5).getD 0 0) ((moL 5).getD 0 0) (.inr q) = q.2.2.2 := by rw [h06.1, h06.2, numV, if_pos h2, if_pos hin]
            have ih := nm_ch (b := b) (tl := tl) (wd := 5) (dy := dy) 1 1 q.2.2.1 (fun _ => by decide)
            rw [chX, chV, ex, ev]
            cases hn : nmF b tl 5 dy 1 (0 + 1) q.2.2.1 with
            | inl e => rw [hn] at ih; exact ih
            | inr s => rw [hn] at ih; exact ⟨ih.1, by rw [← ih.2]⟩
        · rw [if_neg hin, if_neg hin]
          have ex : numX b tl ((leL 5).getD 0 0) ((moL 5).getD 0 0) (.inr q) = .inl (3, q.2.1) := by rw [h06.1, h06.2, numX, if_pos h2, if_neg hin]
          show chX b tl 5 2 0 (.inr q) = _
          rw [chX, ex]; exact chX_e _ _
      · rw [if_neg h2, if_neg h2]
        have ex : numX b tl ((leL 5).getD 0 0) ((moL 5).getD 0 0) (.inr q) = .inl (2, q.2.1) := by rw [numX, if_neg h2]
        show chX b tl 5 2 0 (.inr q) = _
        rw [chX, ex]; exact chX_e _ _
  · rw [if_neg h5]
    exact nm_ch _ _ _ (fun z => absurd z h5)
def lnX (D : gT) (nh nt : Nat) (wt lt dy : Int32) (wd : Nat) (V : List Int32) : TX → (Nat × Nat) ⊕ PSt
  | .inl e => .inl e
  | .inr r => if r.1 = 3 then .inr (lnS D nh nt wt lt dy wd r.2.2.1 V) else .inl (2, r.2.1)
theorem lineE_of {b : Nat → Int32} {tl : Nat} {D : gT} {nh nt : Nat} {wt lt dy : Int32} {wd : Nat} {X : TX} {V : List Int32} {N : (Nat × Nat) ⊕ (List Int32 × Nat)} (h : NR b tl X V N) : lineE b tl D nh nt wt lt dy wd N = lnX D nh nt wt lt dy wd V X := by
  cases N with
  | inl e => obtain rfl : X = .inl e := h; rfl
  | inr s =>
    obtain ⟨h1, h2⟩ := h
    subst h1 h2
    rw [lineE]
    cases tokF b tl s.2 <;> rfl
