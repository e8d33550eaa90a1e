abbrev RR (R : gT) (n : Nat) (w : ev_W) : Prop := GR 1 layX1 13 R 42 n w
theorem RR.fr {R : gT} {n : Nat} {w w' : ev_W} (h : RR R n w) (h1 : w' 42 = w 42) (h2 : w' 55 = w 55) : RR R n w' := by
  refine ⟨h.1, by rw [h1]; exact h.2.1, fun i o ty len hi => ?_⟩
  match i, hi with
  | 2, hi =>
    cases hi
    obtain ⟨f, e1, e2⟩ := h.2.2 2 13 0 3 rfl
    exact ⟨f, h2.trans e1, e2⟩
  | 0, hi => cases hi
  | 1, hi => cases hi
  | 3, hi => cases hi
  | 4, hi => cases hi
  | 5, hi => cases hi
  | 6, hi => cases hi
  | 7, hi => cases hi
  | 8, hi => cases hi
  | 9, hi => cases hi
  | 10, hi => cases hi
  | 11, hi => cases hi
  | _ + 12, hi => cases hi
def FrQ (w w' : ev_W) : Prop := ∀ k, k ≠ 42 → k ≠ 55 → w' k = w k
theorem FrQ.rf {w : ev_W} : FrQ w w := fun _ _ _ => rfl
theorem FrQ.tr {w w' w'' : ev_W} (h : FrQ w w') (h' : FrQ w' w'') : FrQ w w'' := fun k h1 h2 => (h' k h1 h2).trans (h k h1 h2)
def FrW (w w' : ev_W) : Prop := ∀ k, k ≠ 42 → (k < 45 ∨ 56 ≤ k) → w' k = w k
theorem FrW.rf {w : ev_W} : FrW w w := fun _ _ _ => rfl
theorem FrW.tr {w w' w'' : ev_W} (h : FrW w w') (h' : FrW w' w'') : FrW w w'' := fun k h1 h2 => (h' k h1 h2).trans (h k h1 h2)
theorem FrW.l {w w' w'' : ev_W} (h : FrW w w') (h' : FrQ w' w'') : FrW w w'' := fun k h1 h2 => (h' k h1 (by omega)).trans (h k h1 h2)
theorem FrW.r {w w' w'' : ev_W} (h : FrW w w') (h' : Fr 45 55 w' w'') : FrW w w'' := fun k h1 h2 => (h' k (by omega)).trans (h k h1 h2)
theorem Fr.wq {w w' w'' : ev_W} (h : Fr 0 70 w w') (h' : FrW w' w'') : Fr 0 70 w w'' := fun k hk => (h' k (by omega) (by omega)).trans (h k hk)
abbrev ev_cq (v : Option Value) (n : Nat) (w : ev_W) (G : ev_W → Prop) : Option Value → Nat → ev_W → Prop := fun a m u => a = v ∧ m = n ∧ G u ∧ FrQ w u
section EVR
variable {E : ev_E} {M : ev_M} {pc q : Nat} {L : List (Option Value)} {st : List Value} {n : Nat} {w : ev_W} {cs : Nat × Nat} {Q : Option Value → Nat → ev_W → Prop} {R : gT}
theorem r_put {idx i : Nat} {x : Int32} {t : FieldType} (d : decode (ev_cc M) pc = .ok (.putfield idx, 3)) (hq : pc + 3 = q) (fl : ev_FP (ev_y M).cls idx 1 i t) (h : RR R n w) (hi : gnth layX1 i = some (0, 0, 0, 0)) (hnar : narrow t (.int x) = .int x) (hfit : fits t (.int x) = true) (kk : ∀ w', RR (tup R i 0 x) n w' → FrQ w w' → Ev E M q L st n w' cs Q) : Ev E M pc L (.int x :: .ref 42 :: st) n w cs Q :=
  st_putfield d hq fl (by have := h.1; omega) h.2.1 (gfs_0 R 42 layX1 0 i hi) hnar hfit rfl (kk _ (GR.put gkX1 h hi).1 (fun k h1 _ => ev_up_n h1))
theorem r_iast {j : Nat} {x y : Int32} (d : decode (ev_cc M) pc = .ok (.iastore, 1)) (hq : pc + 1 = q) (h : RR R n w) (hx : ev_ix x 3 j) (kk : ∀ w', RR (tup R 2 j y) n w' → FrQ w w' → Ev E M q L st n w' cs Q) : Ev E M pc L (.int y :: .int x :: .ref (42 + 13) :: st) n w cs Q := by
  obtain ⟨f, e1, e2⟩ := h.2.2 2 13 0 3 rfl
  exact st_iastore d hq (by have := h.1; omega) e1 hx (kk _ (GR.ast gkX1 h rfl e2).1 (fun k _ h2 => ev_up_n h2))
end EVR
def XI (X Tn : gT) (Ti : Nat → gT) (Tp Sg : gT) (Sh : Nat → gT) (n : Nat) (w : ev_W) : Prop :=
  70 ≤ n ∧ GR 6 layX6 0 X 0 n w ∧ TR Tn 1 n w ∧ (∃ Tq, TR Tq 11 n w) ∧ (∃ g, w 21 = aQ 3 2 g ∧ g 0 = some 22 ∧ g 1 = some 32) ∧ (∀ k, k < 2 → TR (Ti k) (22 + 10 * k) n w) ∧ PR Tp 43 n w ∧ (∃ R, RR R n w) ∧ GS Sg 56 n w ∧ (∃ U, GF U 59 n w) ∧ (∃ g, w 61 = aQ 4 4 g ∧ ∀ k, k < 4 → g k = some (62 + 2 * k)) ∧ (∀ k, k < 4 → SR (Sh k) (62 + 2 * k) n w) ∧ ∃ D, TR D 45 n w
theorem XI.hn {X Tn : gT} {Ti : Nat → gT} {Tp Sg : gT} {Sh : Nat → gT} {n : Nat} {w : ev_W} (h : XI X Tn Ti Tp Sg Sh n w) : 70 ≤ n := h.1
theorem XI.x {X Tn : gT} {Ti : Nat → gT} {Tp Sg : gT} {Sh : Nat → gT} {n : Nat} {w : ev_W} (h : XI X Tn Ti Tp Sg Sh n w) : GR 6 layX6 0 X 0 n w := h.2.1
theorem XI.now {X Tn : gT} {Ti : Nat → gT} {Tp Sg : gT} {Sh : Nat → gT} {n : Nat} {w : ev_W} (h : XI X Tn Ti Tp Sg Sh n w) : TR Tn 1 n w := h.2.2.1
theorem XI.tr {X Tn : gT} {Ti : Nat → gT} {Tp Sg : gT} {Sh : Nat → gT} {n : Nat} {w : ev_W} (h : XI X Tn Ti Tp Sg Sh n w) : ∃ Tq, TR Tq 11 n w := h.2.2.2.1
theorem XI.ir {X Tn : gT} {Ti : Nat → gT} {Tp Sg : gT} {Sh : Nat → gT} {n : Nat} {w : ev_W} (h : XI X Tn Ti Tp Sg Sh n w) : ∃ g, w 21 = aQ 3 2 g ∧ g 0 = some 22 ∧ g 1 = some 32 := h.2.2.2.2.1
theorem XI.im {X Tn : gT} {Ti : Nat → gT} {Tp Sg : gT} {Sh : Nat → gT} {n : Nat} {w : ev_W} (h : XI X Tn Ti Tp Sg Sh n w) : ∀ k, k < 2 → TR (Ti k) (22 + 10 * k) n w := h.2.2.2.2.2.1
theorem XI.tp {X Tn : gT} {Ti : Nat → gT} {Tp Sg : gT} {Sh : Nat → gT} {n : Nat} {w : ev_W} (h : XI X Tn Ti Tp Sg Sh n w) : PR Tp 43 n w := h.2.2.2.2.2.2.1
theorem XI.rd {X Tn : gT} {Ti : Nat → gT} {Tp Sg : gT} {Sh : Nat → gT} {n : Nat} {w : ev_W} (h : XI X Tn Ti Tp Sg Sh n w) : ∃ R, RR R n w := h.2.2.2.2.2.2.2.1
theorem XI.sg {X Tn : gT} {Ti : Nat → gT} {Tp Sg : gT} {Sh : Nat → gT} {n : Nat} {w : ev_W} (h : XI X Tn Ti Tp Sg Sh n w) : GS Sg 56 n w := h.2.2.2.2.2.2.2.2.1
theorem XI.fu {X Tn : gT} {Ti : Nat → gT} {Tp Sg : gT} {Sh : Nat → gT} {n : Nat} {w : ev_W} (h : XI X Tn Ti Tp Sg Sh n w) : ∃ U, GF U 59 n w := h.2.2.2.2.2.2.2.2.2.1
theorem XI.sr {X Tn : gT} {Ti : Nat → gT} {Tp Sg : gT} {Sh : Nat → gT} {n : Nat} {w : ev_W} (h : XI X Tn Ti Tp Sg Sh n w) : ∃ g, w 61 = aQ 4 4 g ∧ ∀ k, k < 4 → g k = some (62 + 2 * k) := h.2.2.2.2.2.2.2.2.2.2.1
theorem XI.sh {X Tn : gT} {Ti : Nat → gT} {Tp Sg : gT} {Sh : Nat → gT} {n : Nat} {w : ev_W} (h : XI X Tn Ti Tp Sg Sh n w) : ∀ k, k < 4 → SR (Sh k) (62 + 2 * k) n w := h.2.2.2.2.2.2.2.2.2.2.2.1
theorem XI.dr {X Tn : gT} {Ti : Nat → gT} {Tp Sg : gT} {Sh : Nat → gT} {n : Nat} {w : ev_W} (h : XI X Tn Ti Tp Sg Sh n w) : ∃ D, TR D 45 n w := h.2.2.2.2.2.2.2.2.2.2.2.2
theorem XI.rdx {X Tn : gT} {Ti : Nat → gT} {Tp Sg : gT} {Sh : Nat → gT} {n : Nat} {w : ev_W} (h : XI X Tn Ti Tp Sg Sh n w) : GR 1 layX1 13 h.rd.choose 42 n w := h.rd.choose_spec
theorem XI.setX {X Tn : gT} {Ti : Nat → gT} {Tp Sg : gT} {Sh : Nat → gT} {n : Nat} {w : ev_W} (h : XI X Tn Ti Tp Sg Sh n w) {w' : ev_W} {X' : gT} (hz : GR 6 layX6 0 X' 0 n w') (hf : Fr 0 1 w w') : XI X' Tn Ti Tp Sg Sh n w' := by
  refine ⟨h.hn, ?_, ?_, ?_, ?_, ?_, ?_, ?_, ?_, ?_, ?_, ?_, ?_⟩
  · exact hz
  · exact GR.fr gkX5 h.now (fun k h1 h2 => hf k (by omega))
  · exact (by obtain ⟨Tq, q⟩ := h.tr; exact ⟨Tq, GR.fr gkX5 q (fun k h1 h2 => hf k (by omega))⟩)
  · exact (by obtain ⟨g, q⟩ := h.ir; exact ⟨g, by rw [hf 21 (by omega)]; exact q.1, q.2⟩)
  · exact (fun k hk => GR.fr gkX5 (h.im k hk) (fun j h1 h2 => hf j (by omega)))
  · exact GR.fr gkX4 h.tp (fun k h1 h2 => hf k (by omega))
  · exact (by obtain ⟨R, q⟩ := h.rd; exact ⟨R, RR.fr q (hf 42 (by omega)) (hf 55 (by omega))⟩)
  · exact GR.fr gkX3 h.sg (fun k h1 h2 => hf k (by omega))
  · exact (by obtain ⟨U, q⟩ := h.fu; exact ⟨U, GR.fr gkX0 q (fun k h1 h2 => hf k (by omega))⟩)
  · exact (by obtain ⟨g, q⟩ := h.sr; exact ⟨g, by rw [hf 61 (by omega)]; exact q.1, q.2⟩)
  · exact (fun k hk => GR.fr gkX2 (h.sh k hk) (fun j h1 h2 => hf j (by omega)))
  · exact (by obtain ⟨D, q⟩ := h.dr; exact ⟨D, GR.fr gkX5 q (fun k h1 h2 => hf k (by omega))⟩)
theorem XI.setNow {X Tn : gT} {Ti : Nat → gT} {Tp Sg : gT} {Sh : Nat → gT} {n : Nat} {w : ev_W} (h : XI X Tn Ti Tp Sg Sh n w) {w' : ev_W} {T' : gT} (hz : TR T' 1 n w') (hf : Fr 1 11 w w') : XI X T' Ti Tp Sg Sh n w' := by
  refine ⟨h.hn, ?_, ?_, ?_, ?_, ?_, ?_, ?_, ?_, ?_, ?_, ?_, ?_⟩
  · exact GR.fr gkX6 h.x (fun k h1 h2 => hf k (by omega))
  · exact hz
  · exact (by obtain ⟨Tq, q⟩ := h.tr; exact ⟨Tq, GR.fr gkX5 q (fun k h1 h2 => hf k (by omega))⟩)
  · exact (by obtain ⟨g, q⟩ := h.ir; exact ⟨g, by rw [hf 21 (by omega)]; exact q.1, q.2⟩)
  · exact (fun k hk => GR.fr gkX5 (h.im k hk) (fun j h1 h2 => hf j (by omega)))
  · exact GR.fr gkX4 h.tp (fun k h1 h2 => hf k (by omega))
  · exact (by obtain ⟨R, q⟩ := h.rd; exact ⟨R, RR.fr q (hf 42 (by omega)) (hf 55 (by omega))⟩)
  · exact GR.fr gkX3 h.sg (fun k h1 h2 => hf k (by omega))
  · exact (by obtain ⟨U, q⟩ := h.fu; exact ⟨U, GR.fr gkX0 q (fun k h1 h2 => hf k (by omega))⟩)
  · exact (by obtain ⟨g, q⟩ := h.sr; exact ⟨g, by rw [hf 61 (by omega)]; exact q.1, q.2⟩)
  · exact (fun k hk => GR.fr gkX2 (h.sh k hk) (fun j h1 h2 => hf j (by omega)))
  · exact (by obtain ⟨D, q⟩ := h.dr; exact ⟨D, GR.fr gkX5 q (fun k h1 h2 => hf k (by omega))⟩)
theorem XI.setTrial {X Tn : gT} {Ti : Nat → gT} {Tp Sg : gT} {Sh : Nat → gT} {n : Nat} {w : ev_W} (h : XI X Tn Ti Tp Sg Sh n w) {w' : ev_W} {T' : gT} (hz : TR T' 11 n w') (hf : Fr 11 21 w w') : XI X Tn Ti Tp Sg Sh n w' := by
  refine ⟨h.hn, ?_, ?_, ?_, ?_, ?_, ?_, ?_, ?_, ?_, ?_, ?_, ?_⟩
  · exact GR.fr gkX6 h.x (fun k h1 h2 => hf k (by omega))
  · exact GR.fr gkX5 h.now (fun k h1 h2 => hf k (by omega))
  · exact ⟨_, hz⟩
  · exact (by obtain ⟨g, q⟩ := h.ir; exact ⟨g, by rw [hf 21 (by omega)]; exact q.1, q.2⟩)
  · exact (fun k hk => GR.fr gkX5 (h.im k hk) (fun j h1 h2 => hf j (by omega)))
  · exact GR.fr gkX4 h.tp (fun k h1 h2 => hf k (by omega))
  · exact (by obtain ⟨R, q⟩ := h.rd; exact ⟨R, RR.fr q (hf 42 (by omega)) (hf 55 (by omega))⟩)
  · exact GR.fr gkX3 h.sg (fun k h1 h2 => hf k (by omega))
  · exact (by obtain ⟨U, q⟩ := h.fu; exact ⟨U, GR.fr gkX0 q (fun k h1 h2 => hf k (by omega))⟩)
  · exact (by obtain ⟨g, q⟩ := h.sr; exact ⟨g, by rw [hf 61 (by omega)]; exact q.1, q.2⟩)
  · exact (fun k hk => GR.fr gkX2 (h.sh k hk) (fun j h1 h2 => hf j (by omega)))
  · exact (by obtain ⟨D, q⟩ := h.dr; exact ⟨D, GR.fr gkX5 q (fun k h1 h2 => hf k (by omega))⟩)
theorem XI.setTp {X Tn : gT} {Ti : Nat → gT} {Tp Sg : gT} {Sh : Nat → gT} {n : Nat} {w : ev_W} (h : XI X Tn Ti Tp Sg Sh n w) {w' : ev_W} {T' : gT} (hz : PR T' 43 n w') (hf : Fr 43 45 w w') : XI X Tn Ti T' Sg Sh n w' := by
  refine ⟨h.hn, ?_, ?_, ?_, ?_, ?_, ?_, ?_, ?_, ?_, ?_, ?_, ?_⟩
  · exact GR.fr gkX6 h.x (fun k h1 h2 => hf k (by omega))
  · exact GR.fr gkX5 h.now (fun k h1 h2 => hf k (by omega))
  · exact (by obtain ⟨Tq, q⟩ := h.tr; exact ⟨Tq, GR.fr gkX5 q (fun k h1 h2 => hf k (by omega))⟩)
  · exact (by obtain ⟨g, q⟩ := h.ir; exact ⟨g, by rw [hf 21 (by omega)]; exact q.1, q.2⟩)
  · exact (fun k hk => GR.fr gkX5 (h.im k hk) (fun j h1 h2 => hf j (by omega)))
  · exact hz
  · exact (by obtain ⟨R, q⟩ := h.rd; exact ⟨R, RR.fr q (hf 42 (by omega)) (hf 55 (by omega))⟩)
  · exact GR.fr gkX3 h.sg (fun k h1 h2 => hf k (by omega))
  · exact (by obtain ⟨U, q⟩ := h.fu; exact ⟨U, GR.fr gkX0 q (fun k h1 h2 => hf k (by omega))⟩)
  · exact (by obtain ⟨g, q⟩ := h.sr; exact ⟨g, by rw [hf 61 (by omega)]; exact q.1, q.2⟩)
  · exact (fun k hk => GR.fr gkX2 (h.sh k hk) (fun j h1 h2 => hf j (by omega)))
  · exact (by obtain ⟨D, q⟩ := h.dr; exact ⟨D, GR.fr gkX5 q (fun k h1 h2 => hf k (by omega))⟩)
theorem XI.setSg {X Tn : gT} {Ti : Nat → gT} {Tp Sg : gT} {Sh : Nat → gT} {n : Nat} {w : ev_W} (h : XI X Tn Ti Tp Sg Sh n w) {w' : ev_W} {T' : gT} (hz : GS T' 56 n w') (hf : Fr 56 59 w w') : XI X Tn Ti Tp T' Sh n w' := by
  refine ⟨h.hn, ?_, ?_, ?_, ?_, ?_, ?_, ?_, ?_, ?_, ?_, ?_, ?_⟩
  · exact GR.fr gkX6 h.x (fun k h1 h2 => hf k (by omega))
  · exact GR.fr gkX5 h.now (fun k h1 h2 => hf k (by omega))
  · exact (by obtain ⟨Tq, q⟩ := h.tr; exact ⟨Tq, GR.fr gkX5 q (fun k h1 h2 => hf k (by omega))⟩)
  · exact (by obtain ⟨g, q⟩ := h.ir; exact ⟨g, by rw [hf 21 (by omega)]; exact q.1, q.2⟩)
  · exact (fun k hk => GR.fr gkX5 (h.im k hk) (fun j h1 h2 => hf j (by omega)))
  · exact GR.fr gkX4 h.tp (fun k h1 h2 => hf k (by omega))
  · exact (by obtain ⟨R, q⟩ := h.rd; exact ⟨R, RR.fr q (hf 42 (by omega)) (hf 55 (by omega))⟩)
  · exact hz
  · exact (by obtain ⟨U, q⟩ := h.fu; exact ⟨U, GR.fr gkX0 q (fun k h1 h2 => hf k (by omega))⟩)
  · exact (by obtain ⟨g, q⟩ := h.sr; exact ⟨g, by rw [hf 61 (by omega)]; exact q.1, q.2⟩)
  · exact (fun k hk => GR.fr gkX2 (h.sh k hk) (fun j h1 h2 => hf j (by omega)))
  · exact (by obtain ⟨D, q⟩ := h.dr; exact ⟨D, GR.fr gkX5 q (fun k h1 h2 => hf k (by omega))⟩)
theorem XI.setFu {X Tn : gT} {Ti : Nat → gT} {Tp Sg : gT} {Sh : Nat → gT} {n : Nat} {w : ev_W} (h : XI X Tn Ti Tp Sg Sh n w) {w' : ev_W} {T' : gT} (hz : GF T' 59 n w') (hf : Fr 59 61 w w') : XI X Tn Ti Tp Sg Sh n w' := by
  refine ⟨h.hn, ?_, ?_, ?_, ?_, ?_, ?_, ?_, ?_, ?_, ?_, ?_, ?_⟩
  · exact GR.fr gkX6 h.x (fun k h1 h2 => hf k (by omega))
  · exact GR.fr gkX5 h.now (fun k h1 h2 => hf k (by omega))
  · exact (by obtain ⟨Tq, q⟩ := h.tr; exact ⟨Tq, GR.fr gkX5 q (fun k h1 h2 => hf k (by omega))⟩)
  · exact (by obtain ⟨g, q⟩ := h.ir; exact ⟨g, by rw [hf 21 (by omega)]; exact q.1, q.2⟩)
  · exact (fun k hk => GR.fr gkX5 (h.im k hk) (fun j h1 h2 => hf j (by omega)))
  · exact GR.fr gkX4 h.tp (fun k h1 h2 => hf k (by omega))
  · exact (by obtain ⟨R, q⟩ := h.rd; exact ⟨R, RR.fr q (hf 42 (by omega)) (hf 55 (by omega))⟩)
  · exact GR.fr gkX3 h.sg (fun k h1 h2 => hf k (by omega))
  · exact ⟨_, hz⟩
  · exact (by obtain ⟨g, q⟩ := h.sr; exact ⟨g, by rw [hf 61 (by omega)]; exact q.1, q.2⟩)
  · exact (fun k hk => GR.fr gkX2 (h.sh k hk) (fun j h1 h2 => hf j (by omega)))
  · exact (by obtain ⟨D, q⟩ := h.dr; exact ⟨D, GR.fr gkX5 q (fun k h1 h2 => hf k (by omega))⟩)
theorem XI.keep {X Tn : gT} {Ti : Nat → gT} {Tp Sg : gT} {Sh : Nat → gT} {n : Nat} {w w' : ev_W} (h : XI X Tn Ti Tp Sg Sh n w) (hf : ∀ k, k < 70 → w' k = w k) : XI X Tn Ti Tp Sg Sh n w' := by
  refine ⟨h.hn, ?_, ?_, ?_, ?_, ?_, ?_, ?_, ?_, ?_, ?_, ?_, ?_⟩
  · exact GR.fr gkX6 h.x (fun k h1 h2 => hf k (by omega))
  · exact GR.fr gkX5 h.now (fun k h1 h2 => hf k (by omega))
  · exact (by obtain ⟨Tq, q⟩ := h.tr; exact ⟨Tq, GR.fr gkX5 q (fun k h1 h2 => hf k (by omega))⟩)
  · exact (by obtain ⟨g, q⟩ := h.ir; exact ⟨g, by rw [hf 21 (by omega)]; exact q.1, q.2⟩)
  · exact (fun k hk => GR.fr gkX5 (h.im k hk) (fun j h1 h2 => hf j (by omega)))
  · exact GR.fr gkX4 h.tp (fun k h1 h2 => hf k (by omega))
  · exact (by obtain ⟨R, q⟩ := h.rd; exact ⟨R, RR.fr q (hf 42 (by omega)) (hf 55 (by omega))⟩)
  · exact GR.fr gkX3 h.sg (fun k h1 h2 => hf k (by omega))
  · exact (by obtain ⟨U, q⟩ := h.fu; exact ⟨U, GR.fr gkX0 q (fun k h1 h2 => hf k (by omega))⟩)
  · exact (by obtain ⟨g, q⟩ := h.sr; exact ⟨g, by rw [hf 61 (by omega)]; exact q.1, q.2⟩)
  · exact (fun k hk => GR.fr gkX2 (h.sh k hk) (fun j h1 h2 => hf j (by omega)))
  · exact (by obtain ⟨D, q⟩ := h.dr; exact ⟨D, GR.fr gkX5 q (fun k h1 h2 => hf k (by omega))⟩)
theorem XI.setIm {X Tn : gT} {Ti : Nat → gT} {Tp Sg : gT} {Sh : Nat → gT} {n : Nat} {w w' : ev_W} (h : XI X Tn Ti Tp Sg Sh n w) {j : Nat} (hj : j < 2) {T' : gT} (hz : TR T' (22 + 10 * j) n w') (hf : Fr (22 + 10 * j) (32 + 10 * j) w w') : XI X Tn (fun k => if k = j then T' else Ti k) Tp Sg Sh n w' := by
  refine ⟨h.hn, ?_, ?_, ?_, ?_, ?_, ?_, ?_, ?_, ?_, ?_, ?_, ?_⟩
  · exact GR.fr gkX6 h.x (fun k h1 h2 => hf k (by omega))
  · exact GR.fr gkX5 h.now (fun k h1 h2 => hf k (by omega))
  · exact (by obtain ⟨Tq, q⟩ := h.tr; exact ⟨Tq, GR.fr gkX5 q (fun k h1 h2 => hf k (by omega))⟩)
  · exact (by obtain ⟨g, q⟩ := h.ir; exact ⟨g, by rw [hf 21 (by omega)]; exact q.1, q.2⟩)
  · intro k hk
    by_cases e : k = j
    · subst e; dsimp only; rw [if_pos rfl]; exact hz
    · dsimp only; rw [if_neg e]; exact GR.fr gkX5 (h.im k hk) (fun i h1 h2 => hf i (by omega))
  · exact GR.fr gkX4 h.tp (fun k h1 h2 => hf k (by omega))
  · exact (by obtain ⟨R, q⟩ := h.rd; exact ⟨R, RR.fr q (hf 42 (by omega)) (hf 55 (by omega))⟩)
  · exact GR.fr gkX3 h.sg (fun k h1 h2 => hf k (by omega))
  · exact (by obtain ⟨U, q⟩ := h.fu; exact ⟨U, GR.fr gkX0 q (fun k h1 h2 => hf k (by omega))⟩)
  · exact (by obtain ⟨g, q⟩ := h.sr; exact ⟨g, by rw [hf 61 (by omega)]; exact q.1, q.2⟩)
  · exact (fun k hk => GR.fr gkX2 (h.sh k hk) (fun j h1 h2 => hf j (by omega)))
  · exact (by obtain ⟨D, q⟩ := h.dr; exact ⟨D, GR.fr gkX5 q (fun k h1 h2 => hf k (by omega))⟩)
theorem XI.setSh {X Tn : gT} {Ti : Nat → gT} {Tp Sg : gT} {Sh : Nat → gT} {n : Nat} {w w' : ev_W} (h : XI X Tn Ti Tp Sg Sh n w) {j : Nat} (hj : j < 4) {T' : gT} (hz : SR T' (62 + 2 * j) n w') (hf : Fr (62 + 2 * j) (64 + 2 * j) w w') : XI X Tn Ti Tp Sg (fun k => if k = j then T' else Sh k) n w' := by
  refine ⟨h.hn, ?_, ?_, ?_, ?_, ?_, ?_, ?_, ?_, ?_, ?_, ?_, ?_⟩
  · exact GR.fr gkX6 h.x (fun k h1 h2 => hf k (by omega))
  · exact GR.fr gkX5 h.now (fun k h1 h2 => hf k (by omega))
  · exact (by obtain ⟨Tq, q⟩ := h.tr; exact ⟨Tq, GR.fr gkX5 q (fun k h1 h2 => hf k (by omega))⟩)
  · exact (by obtain ⟨g, q⟩ := h.ir; exact ⟨g, by rw [hf 21 (by omega)]; exact q.1, q.2⟩)
  · exact (fun k hk => GR.fr gkX5 (h.im k hk) (fun j h1 h2 => hf j (by omega)))
  · exact GR.fr gkX4 h.tp (fun k h1 h2 => hf k (by omega))
  · exact (by obtain ⟨R, q⟩ := h.rd; exact ⟨R, RR.fr q (hf 42 (by omega)) (hf 55 (by omega))⟩)
  · exact GR.fr gkX3 h.sg (fun k h1 h2 => hf k (by omega))
  · exact (by obtain ⟨U, q⟩ := h.fu; exact ⟨U, GR.fr gkX0 q (fun k h1 h2 => hf k (by omega))⟩)
  · exact (by obtain ⟨g, q⟩ := h.sr; exact ⟨g, by rw [hf 61 (by omega)]; exact q.1, q.2⟩)
  · intro k hk
    by_cases e : k = j
    · subst e; dsimp only; rw [if_pos rfl]; exact hz
    · dsimp only; rw [if_neg e]; exact GR.fr gkX2 (h.sh k hk) (fun i h1 h2 => hf i (by omega))
  · exact (by obtain ⟨D, q⟩ := h.dr; exact ⟨D, GR.fr gkX5 q (fun k h1 h2 => hf k (by omega))⟩)
def TK (T : gT) (nh nt dd : Nat) : Prop := T 0 0 = nI nh ∧ nh ≤ 4 ∧ T 6 0 = nI nt ∧ nt ≤ 8 ∧ (∀ j, j < nt → vp_in (T 8 j) 4) ∧ T 16 0 = nI dd ∧ dd ≤ 999
abbrev ev_xr (r : Int32) (n : Nat) (w : ev_W) (G : ev_W → Prop) : Option Value → Nat → ev_W → Prop := fun a m u => a = some (.int r) ∧ m = n ∧ G u ∧ Fr 0 70 w u
theorem inI_k {x : Int32} {k : Nat} (h : inI x 0 (nI k) = true) (hk : k ≤ 1000) : ∃ j, j ≤ k ∧ x = nI j := by
  simp only [inI, Bool.and_eq_true, decide_eq_true_eq] at h
  obtain ⟨h1, h2⟩ := h
  have h3 : 0 ≤ x.toInt := by simpa using Int32.le_iff_toInt_le.mp h1
  have h4 := Int32.le_iff_toInt_le.mp h2
  obtain ⟨j, hj, rfl⟩ := nI_of (x := x) (by intro q; have := Int32.lt_iff_toInt_lt.mp q; simp at this; omega)
  have e1 : (nI j).toInt = j := nI_toInt (by omega)
  have e2 : (nI k).toInt = k := nI_toInt (by omega)
  rw [e1, e2] at h4
  exact ⟨j, by omega, rfl⟩
set_option maxRecDepth 100000 in
set_option maxHeartbeats 4000000 in
theorem c_X6_isWeekday {E : ev_E} {n : Nat} {w : ev_W} {x : Int32} : Ct E mX6_isWeekday [.int x] n w (ev_is (some (.int (zI (inI x 0 6)))) n w) := by
  refine Ct.of 0 (by decide) (Nat.le_of_ble_eq_true rfl) rfl ?_
  refine st_iload_n (q := 1) dX6_isWeekday_0 rfl rfl rfl ?_
  refine st_iconst (q := 2) dX6_isWeekday_1 rfl ic_0 ?_
  refine st_bipush (q := 4) dX6_isWeekday_2 rfl bp_6 ?_
  refine sp_S3 (q := 7) (M' := mX6_within) dX6_isWeekday_4 rfl ok_X6_within mk_X6_within ml_X6_51 ⟨Nat.le_of_ble_eq_true rfl, Nat.le_of_ble_eq_true rfl⟩ rfl (Nat.le_of_ble_eq_true rfl) ⟨rfl, rfl⟩ (c_X6_within) ?_
  refine st_nreturn dX6_isWeekday_7 rfl (by exact zI_nar _) ?_
  exact ⟨rfl, rfl, rfl⟩
set_option maxRecDepth 100000 in
set_option maxHeartbeats 4000000 in
theorem c_X6_isAhead {E : ev_E} {n : Nat} {w : ev_W} {x : Int32} : Ct E mX6_isAhead [.int x] n w (ev_is (some (.int (zI (inI x 0 60)))) n w) := by
  refine Ct.of 0 (by decide) (Nat.le_of_ble_eq_true rfl) rfl ?_
  refine st_iload_n (q := 1) dX6_isAhead_0 rfl rfl rfl ?_
  refine st_iconst (q := 2) dX6_isAhead_1 rfl ic_0 ?_
  refine st_bipush (q := 4) dX6_isAhead_2 rfl bp_60 ?_
  refine sp_S3 (q := 7) (M' := mX6_within) dX6_isAhead_4 rfl ok_X6_within mk_X6_within ml_X6_51 ⟨Nat.le_of_ble_eq_true rfl, Nat.le_of_ble_eq_true rfl⟩ rfl (Nat.le_of_ble_eq_true rfl) ⟨rfl, rfl⟩ (c_X6_within) ?_
  refine st_nreturn dX6_isAhead_7 rfl (by exact zI_nar _) ?_
  exact ⟨rfl, rfl, rfl⟩
set_option maxRecDepth 100000 in
set_option maxHeartbeats 4000000 in
theorem c_X6_isSheet {E : ev_E} {n : Nat} {w : ev_W} {x : Int32} : Ct E mX6_isSheet [.int x] n w (ev_is (some (.int (zI (inI x 0 3)))) n w) := by
  refine Ct.of 0 (by decide) (Nat.le_of_ble_eq_true rfl) rfl ?_
  refine st_iload_n (q := 1) dX6_isSheet_0 rfl rfl rfl ?_
  refine st_iconst (q := 2) dX6_isSheet_1 rfl ic_0 ?_
  refine st_iconst (q := 3) dX6_isSheet_2 rfl ic_3 ?_
  refine sp_S3 (q := 6) (M' := mX6_within) dX6_isSheet_3 rfl ok_X6_within mk_X6_within ml_X6_51 ⟨Nat.le_of_ble_eq_true rfl, Nat.le_of_ble_eq_true rfl⟩ rfl (Nat.le_of_ble_eq_true rfl) ⟨rfl, rfl⟩ (c_X6_within) ?_
  refine st_nreturn dX6_isSheet_6 rfl (by exact zI_nar _) ?_
  exact ⟨rfl, rfl, rfl⟩
set_option maxRecDepth 100000 in
set_option maxHeartbeats 4000000 in
theorem c_X6_replace {E : ev_E} {n : Nat} {w : ev_W} {c len j : Nat} {f : Nat → Int32} {x v : Int32} (hc : c < n) (hw : w c = aI len f) (hx : ev_ix x len j) : Ct E mX6_replace [.ref c, .int x, .int v] n w (ev_is (some (.int (f j))) n (ev_up w c (aI len (upd f j v)))) := by
  refine Ct.of 1 (by decide) (Nat.le_of_ble_eq_true rfl) rfl ?_
  refine st_aload_n (q := 1) dX6_replace_0 rfl rfl rfl ?_
  refine st_iload_n (q := 2) dX6_replace_1 rfl rfl rfl ?_
  refine st_iaload (q := 3) dX6_replace_2 rfl hc hw hx ?_
  refine st_istore_n (q := 4) (L' := [_, _, _, _]) dX6_replace_3 rfl rfl (Nat.le_of_ble_eq_true rfl) rfl ?_
  refine st_aload_n (q := 5) dX6_replace_4 rfl rfl rfl ?_
  refine st_iload_n (q := 6) dX6_replace_5 rfl rfl rfl ?_
  refine st_iload_n (q := 7) dX6_replace_6 rfl rfl rfl ?_
  refine st_iastore (q := 8) dX6_replace_7 rfl hc hw hx ?_
  refine st_iload_n (q := 9) dX6_replace_8 rfl rfl rfl ?_
  refine st_ireturn dX6_replace_9 rfl ?_
  exact ⟨rfl, rfl, rfl⟩
theorem g_rpl {E : ev_E} {n : Nat} {w : ev_W} {ci : Nat} {lay : gL} {sz : Nat} {T : gT} {b i o len j : Nat} {x v : Int32} (g : gok lay sz) (h : GR ci lay sz T b n w) (hi : gnth lay i = some (1, o, 0, len)) (hx : ev_ix x len j) : Ct E mX6_replace [.ref (b + o), .int x, .int v] n w (ev_ch (some (.int (T i j))) n w b (b + sz + 1) (GR ci lay sz (tup T i j v) b n)) := by
  obtain ⟨f, e1, e2⟩ := h.2.2 i o 0 len hi
  have ho := (g.1 i (gnth_lt _ _ _ hi) _ hi rfl).2
  simp only at ho
  refine Ct.mono (c_X6_replace (by have := h.1; omega) e1 hx) (fun a m u hq => ?_)
  obtain ⟨rfl, rfl, rfl⟩ := hq
  exact ⟨by rw [e2 j (ev_ix_lt hx)], rfl, (GR.ast g h hi e2).1, (GR.ast g h hi e2).2⟩
def feedS (tl : Nat) (x : Int32) : Int32 := if inI x 0 127 = true then (if tl < 160 then nI (tl + 1) else -3) else -1
def endS (tl : Nat) (x : Int32) : Int32 := if inI x 0 (nI tl) = true then nI tl else -1
def ruleS (T : gT) (x : Int32) : Int32 := if x = 0 then T 0 0 else if x = 1 then T 6 0 else if x = 2 then T 16 0 else if x = 3 then T 15 0 else if x = 4 then T 17 0 else if x = 5 then T 14 0 else if x = 6 then T 5 0 else if x = 7 then T 11 0 else if x = 8 then T 12 0 else -1
def houseS (T : gT) (nh nt : Nat) (x y : Int32) : Int32 := if inI x 0 (nI nh - 1) = true then (if inI y 0 5 = true then (if y = 4 then fdT T x nt else if y = 5 then thsT T x nt else T (hrI y) x.toNatClampNeg) else -1) else -1
def thingS (T : gT) (nt : Nat) (x y : Int32) : Int32 := if inI x 0 (nI nt - 1) = true then (if y = 0 then T 7 x.toNatClampNeg else if y = 1 then T 8 x.toNatClampNeg else if y = 2 then T 9 x.toNatClampNeg else if y = 3 then T 10 x.toNatClampNeg else if y = 4 then whI T x else if y = 5 then fillI (T 7 x.toNatClampNeg) (T 9 x.toNatClampNeg) else if y = 6 then costI (T 7 x.toNatClampNeg) (T 10 x.toNatClampNeg) else -1) else -1
def riseS (T : gT) (x : Int32) : Int32 := if inI x 0 6 = true then T 13 x.toNatClampNeg else -1
def moH (y : Int32) : Int32 := if y = 0 then 20 else if y = 1 then 40 else if y = 2 then 3 else 99
def leT (y : Int32) : Int32 := if y = 1 then 1 else 0
def moT (y : Int32) : Int32 := if y = 0 then 3 else 9
def tsI (y : Int32) : Nat := if y = 0 then 7 else if y = 1 then 9 else 10
def buildS (T : gT) (nh : Nat) (x y z : Int32) : Int32 × gT := if inI x 0 (nI nh - 1) = true then (if inI y 0 3 = true then (if inI z 0 (moH y) = true then (T (hrI y) x.toNatClampNeg, tup T (hrI y) x.toNatClampNeg z) else (-1, T)) else (-1, T)) else (-1, T)
def alterS (T : gT) (nt : Nat) (x y z : Int32) : Int32 × gT := if inI x 0 (nI nt - 1) = true then (if inI y 0 2 = true then (if inI z (leT y) (moT y) = true then (T (tsI y) x.toNatClampNeg, tup T (tsI y) x.toNatClampNeg z) else (-1, T)) else (-1, T)) else (-1, T)
def tideS (T : gT) (x y : Int32) : Int32 × gT := if inI x 0 6 = true then (if inI y 0 8 = true then (T 13 x.toNatClampNeg, tup T 13 x.toNatClampNeg y) else (-1, T)) else (-1, T)
def blowS (T : gT) (x : Int32) : Int32 × gT := if inI x 0 8 = true then (T 14 0, tup T 14 0 x) else (-1, T)
def daysS (T : gT) (nh nt dd : Nat) (x : Int32) : Int32 × gT := if inI x 0 30 = true then (if T 16 0 + x < 1000 then (dysT T dd nh nt x.toNatClampNeg 17 0 - T 17 0, dysT T dd nh nt x.toNatClampNeg) else (-3, T)) else (-1, T)
set_option maxRecDepth 100000 in
set_option maxHeartbeats 4000000 in
theorem c_X6_fault {E : ev_E} {X Tn : gT} {Ti : Nat → gT} {Tp Sg : gT} {Sh : Nat → gT} {n : Nat} {w : ev_W} (hX : XI X Tn Ti Tp Sg Sh n w) : Ct E mX6_fault [.ref 0] n w (ev_xr (X 5 0) n w (XI X Tn Ti Tp Sg Sh n)) := by
  refine Ct.of 0 (by decide) (Nat.le_of_ble_eq_true rfl) rfl ?_
  have hF : Fr 0 70 w w := Fr.rf
  refine st_aload_n (q := 1) dX6_fault_0 rfl rfl rfl ?_
  refine g_get (q := 4) dX6_fault_1 rfl fl_X6_76.g hX.x rfl ?_
  refine st_ireturn dX6_fault_4 rfl ?_
  exact ⟨rfl, rfl, hX, hF⟩
set_option maxRecDepth 100000 in
set_option maxHeartbeats 4000000 in
theorem c_X6_torn {E : ev_E} {X Tn : gT} {Ti : Nat → gT} {Tp Sg : gT} {Sh : Nat → gT} {n : Nat} {w : ev_W} (hX : XI X Tn Ti Tp Sg Sh n w) : Ct E mX6_torn [.ref 0] n w (ev_xr (X 9 0) n w (XI X Tn Ti Tp Sg Sh n)) := by
  refine Ct.of 0 (by decide) (Nat.le_of_ble_eq_true rfl) rfl ?_
  have hF : Fr 0 70 w w := Fr.rf
  refine st_aload_n (q := 1) dX6_torn_0 rfl rfl rfl ?_
  refine g_get (q := 4) dX6_torn_1 rfl fl_X6_321.g hX.x rfl ?_
  refine st_ireturn dX6_torn_4 rfl ?_
  exact ⟨rfl, rfl, hX, hF⟩
def feT (T : gT) (tl : Nat) (x : Int32) : gT := if inI x 0 127 = true then tpT T tl x else T
def enT (T : gT) (tl : Nat) (x : Int32) : gT := if inI x 0 (nI tl) = true then tup T 1 0 x else T
set_option maxRecDepth 100000 in
set_option maxHeartbeats 4000000 in
theorem c_X6_feed {E : ev_E} {X Tn : gT} {Ti : Nat → gT} {Tp Sg : gT} {Sh : Nat → gT} {n : Nat} {w : ev_W} (hX : XI X Tn Ti Tp Sg Sh n w) {tl : Nat} (e1 : Tp 1 0 = nI tl) (ht : tl ≤ 160) {x : Int32} : Ct E mX6_feed [.ref 0, .int x] n w (ev_xr (feedS tl x) n w (XI X Tn Ti (feT Tp tl x) Sg Sh n)) := by
  refine Ct.of 0 (by decide) (Nat.le_of_ble_eq_true rfl) rfl ?_
  have hF : Fr 0 70 w w := Fr.rf
  refine st_iload_n (q := 1) dX6_feed_0 rfl rfl rfl ?_
  refine st_iconst (q := 2) dX6_feed_1 rfl ic_0 ?_
  refine st_bipush (q := 4) dX6_feed_2 rfl bp_127 ?_
  refine sp_S3 (q := 7) (M' := mX6_within) dX6_feed_4 rfl ok_X6_within mk_X6_within ml_X6_51 ⟨Nat.le_of_ble_eq_true rfl, Nat.le_of_ble_eq_true rfl⟩ rfl (Nat.le_of_ble_eq_true rfl) ⟨rfl, rfl⟩ (c_X6_within) ?_
  refine st_if_ne (q := 10) (tgt := 12) dX6_feed_7 rfl rfl (fun c_7 => ?_) (fun c_7 => ?_)
  · refine st_aload_n (q := 13) dX6_feed_12 rfl rfl rfl ?_
    refine g_getO (q := 16) dX6_feed_13 rfl fl_X6_26.g hX.x rfl ?_
    refine g_getO (q := 19) dX6_feed_16 rfl fl_X6_55 hX.rdx rfl ?_
    refine st_iload_n (q := 20) dX6_feed_19 rfl rfl rfl ?_
    refine sm_V1 (q := 23) (M' := mX4_addByte) dX6_feed_20 rfl ok_X4_addByte mk_X4_addByte ml_X6_59 ⟨Nat.le_of_ble_eq_true rfl, Nat.le_of_ble_eq_true rfl⟩ rfl (Nat.le_of_ble_eq_true rfl) (g_rv hX.tp rfl) ⟨rfl, rfl⟩ (c_X4_addByte hX.tp e1 ht) ?_
    intro _ n w h9 _
    obtain ⟨rfl, rfl, hZ, hF_⟩ := h9
    replace hX := hX.setTp hZ hF_
    replace hF := Fr.tr hF (hF_.mono (by omega) (by omega))
    refine st_if_eq (q := 26) (tgt := 39) dX6_feed_23 rfl rfl (fun c_23 => ?_) (fun c_23 => ?_)
    · refine st_bipush (q := 41) dX6_feed_39 rfl bp_m3 ?_
      refine st_ireturn dX6_feed_41 rfl ?_
      first
        | exact ⟨by rw [feedS, if_neg (by rw [zI_0.mp c_7]; decide)], rfl, by rw [feT, if_neg (by rw [zI_0.mp c_7]; decide)]; exact hX, hF⟩
        | (have z := zI_0.mp c_23; simp only [decide_eq_false_iff_not] at z; exact ⟨by rw [feedS, if_pos (zI_1.mp c_7), if_neg z], rfl, by rw [feT, if_pos (zI_1.mp c_7)]; exact hX, hF⟩)
        | (have z := zI_1.mp c_23; simp only [decide_eq_true_eq] at z; exact ⟨by rw [feedS, if_pos (zI_1.mp c_7), if_pos z, tpT, if_pos z, tup_s, pk_us, e1, ← nI_succ], rfl, by rw [feT, if_pos (zI_1.mp c_7)]; exact hX, hF⟩)
    · refine st_aload_n (q := 27) dX6_feed_26 rfl rfl rfl ?_
      refine g_getO (q := 30) dX6_feed_27 rfl fl_X6_26.g hX.x rfl ?_
      refine g_getO (q := 33) dX6_feed_30 rfl fl_X6_55 hX.rdx rfl ?_
      refine g_get (q := 36) dX6_feed_33 rfl fl_X6_65.g hX.tp rfl ?_
      refine st_goto (q := 41) dX6_feed_36 rfl ?_
      refine st_ireturn dX6_feed_41 rfl ?_
      first
        | exact ⟨by rw [feedS, if_neg (by rw [zI_0.mp c_7]; decide)], rfl, by rw [feT, if_neg (by rw [zI_0.mp c_7]; decide)]; exact hX, hF⟩
        | (have z := zI_0.mp c_23; simp only [decide_eq_false_iff_not] at z; exact ⟨by rw [feedS, if_pos (zI_1.mp c_7), if_neg z], rfl, by rw [feT, if_pos (zI_1.mp c_7)]; exact hX, hF⟩)
        | (have z := zI_1.mp c_23; simp only [decide_eq_true_eq] at z; exact ⟨by rw [feedS, if_pos (zI_1.mp c_7), if_pos z, tpT, if_pos z, tup_s, pk_us, e1, ← nI_succ], rfl, by rw [feT, if_pos (zI_1.mp c_7)]; exact hX, hF⟩)
  · refine st_iconst (q := 11) dX6_feed_10 rfl ic_m1 ?_
    refine st_ireturn dX6_feed_11 rfl ?_
    first
      | exact ⟨by rw [feedS, if_neg (by rw [zI_0.mp c_7]; decide)], rfl, by rw [feT, if_neg (by rw [zI_0.mp c_7]; decide)]; exact hX, hF⟩
      | (have z := zI_0.mp c_23; simp only [decide_eq_false_iff_not] at z; exact ⟨by rw [feedS, if_pos (zI_1.mp c_7), if_neg z], rfl, by rw [feT, if_pos (zI_1.mp c_7)]; exact hX, hF⟩)
      | (have z := zI_1.mp c_23; simp only [decide_eq_true_eq] at z; exact ⟨by rw [feedS, if_pos (zI_1.mp c_7), if_pos z, tpT, if_pos z, tup_s, pk_us, e1, ← nI_succ], rfl, by rw [feT, if_pos (zI_1.mp c_7)]; exact hX, hF⟩)
set_option maxRecDepth 100000 in
set_option maxHeartbeats 4000000 in
theorem c_X6_end {E : ev_E} {X Tn : gT} {Ti : Nat → gT} {Tp Sg : gT} {Sh : Nat → gT} {n : Nat} {w : ev_W} (hX : XI X Tn Ti Tp Sg Sh n w) {tl : Nat} (e1 : Tp 1 0 = nI tl) (ht : tl ≤ 160) {x : Int32} : Ct E mX6_end [.ref 0, .int x] n w (ev_xr (endS tl x) n w (XI X Tn Ti (enT Tp tl x) Sg Sh n)) := by
  refine Ct.of 1 (by decide) (Nat.le_of_ble_eq_true rfl) rfl ?_
  have hF : Fr 0 70 w w := Fr.rf
  refine st_aload_n (q := 1) dX6_end_0 rfl rfl rfl ?_
  refine g_getO (q := 4) dX6_end_1 rfl fl_X6_26.g hX.x rfl ?_
  refine g_getO (q := 7) dX6_end_4 rfl fl_X6_55 hX.rdx rfl ?_
  refine g_get (q := 10) dX6_end_7 rfl fl_X6_65.g hX.tp rfl ?_
  rw [e1]
  refine st_istore_n (q := 11) (L' := [_, _, _]) dX6_end_10 rfl rfl (Nat.le_of_ble_eq_true rfl) rfl ?_
  refine st_iload_n (q := 12) dX6_end_11 rfl rfl rfl ?_
  refine st_iconst (q := 13) dX6_end_12 rfl ic_0 ?_
  refine st_iload_n (q := 14) dX6_end_13 rfl rfl rfl ?_
  refine sp_S3 (q := 17) (M' := mX6_within) dX6_end_14 rfl ok_X6_within mk_X6_within ml_X6_51 ⟨Nat.le_of_ble_eq_true rfl, Nat.le_of_ble_eq_true rfl⟩ rfl (Nat.le_of_ble_eq_true rfl) ⟨rfl, rfl⟩ (c_X6_within) ?_
  refine st_if_ne (q := 20) (tgt := 22) dX6_end_17 rfl rfl (fun c_17 => ?_) (fun c_17 => ?_)
  · refine st_aload_n (q := 23) dX6_end_22 rfl rfl rfl ?_
    refine g_getO (q := 26) dX6_end_23 rfl fl_X6_26.g hX.x rfl ?_
    refine g_getO (q := 29) dX6_end_26 rfl fl_X6_55 hX.rdx rfl ?_
    refine st_iload_n (q := 30) dX6_end_29 rfl rfl rfl ?_
    refine g_put (q := 33) dX6_end_30 rfl fl_X6_65 gkX4 hX.tp rfl rfl rfl (fun w hZ hF_ => ?_)
    replace hX := hX.setTp hZ hF_
    replace hF := Fr.tr hF (hF_.mono (by omega) (by omega))
    refine st_iload_n (q := 34) dX6_end_33 rfl rfl rfl ?_
    refine st_ireturn dX6_end_34 rfl ?_
    first
      | exact ⟨by rw [endS, if_neg (by rw [zI_0.mp c_17]; decide)], rfl, by rw [enT, if_neg (by rw [zI_0.mp c_17]; decide)]; exact hX, hF⟩
      | exact ⟨by rw [endS, if_pos (zI_1.mp c_17)], rfl, by rw [enT, if_pos (zI_1.mp c_17)]; exact hX, hF⟩
  · refine st_iconst (q := 21) dX6_end_20 rfl ic_m1 ?_
    refine st_ireturn dX6_end_21 rfl ?_
    first
      | exact ⟨by rw [endS, if_neg (by rw [zI_0.mp c_17]; decide)], rfl, by rw [enT, if_neg (by rw [zI_0.mp c_17]; decide)]; exact hX, hF⟩
      | exact ⟨by rw [endS, if_pos (zI_1.mp c_17)], rfl, by rw [enT, if_pos (zI_1.mp c_17)]; exact hX, hF⟩
set_option maxRecDepth 100000 in
set_option maxHeartbeats 4000000 in
theorem c_X6_rule {E : ev_E} {X Tn : gT} {Ti : Nat → gT} {Tp Sg : gT} {Sh : Nat → gT} {n : Nat} {w : ev_W} (hX : XI X Tn Ti Tp Sg Sh n w) {x : Int32} : Ct E mX6_rule [.ref 0, .int x] n w (ev_xr (ruleS Tn x) n w (XI X Tn Ti Tp Sg Sh n)) := by
  refine Ct.of 0 (by decide) (Nat.le_of_ble_eq_true rfl) rfl ?_
  have hF : Fr 0 70 w w := Fr.rf
  refine st_iload_n (q := 1) dX6_rule_0 rfl rfl rfl ?_
  refine st_tabK 0 (v := 0) (tgt := 52) dX6_rule_1 rfl rfl (by decide) (by decide) (fun c_1_0 => ?_) (fun c_1_0 t_1_0 => ?_)
  · refine st_aload_n (q := 53) dX6_rule_52 rfl rfl rfl ?_
    refine g_getO (q := 56) dX6_rule_53 rfl fl_X6_10.g hX.x rfl ?_
    refine g_get (q := 59) dX6_rule_56 rfl fl_X6_95.g hX.now rfl ?_
    refine st_ireturn dX6_rule_59 rfl ?_
    refine ⟨?_, rfl, hX, hF⟩
    simp_all [ruleS]
  refine st_tabK 1 (v := 1) (tgt := 60) dX6_rule_1 rfl rfl (by decide) (by decide) (fun c_1_1 => ?_) (fun c_1_1 t_1_1 => ?_)
  · refine st_aload_n (q := 61) dX6_rule_60 rfl rfl rfl ?_
    refine g_getO (q := 64) dX6_rule_61 rfl fl_X6_10.g hX.x rfl ?_
    refine g_get (q := 67) dX6_rule_64 rfl fl_X6_98.g hX.now rfl ?_
    refine st_ireturn dX6_rule_67 rfl ?_
    refine ⟨?_, rfl, hX, hF⟩
    simp_all [ruleS]
  refine st_tabK 2 (v := 2) (tgt := 68) dX6_rule_1 rfl rfl (by decide) (by decide) (fun c_1_2 => ?_) (fun c_1_2 t_1_2 => ?_)
  · refine st_aload_n (q := 69) dX6_rule_68 rfl rfl rfl ?_
    refine g_getO (q := 72) dX6_rule_69 rfl fl_X6_10.g hX.x rfl ?_
    refine g_get (q := 75) dX6_rule_72 rfl fl_X6_101.g hX.now rfl ?_
    refine st_ireturn dX6_rule_75 rfl ?_
    refine ⟨?_, rfl, hX, hF⟩
    simp_all [ruleS]
  refine st_tabK 3 (v := 3) (tgt := 76) dX6_rule_1 rfl rfl (by decide) (by decide) (fun c_1_3 => ?_) (fun c_1_3 t_1_3 => ?_)
  · refine st_aload_n (q := 77) dX6_rule_76 rfl rfl rfl ?_
    refine g_getO (q := 80) dX6_rule_77 rfl fl_X6_10.g hX.x rfl ?_
    refine g_get (q := 83) dX6_rule_80 rfl fl_X6_104.g hX.now rfl ?_
    refine st_ireturn dX6_rule_83 rfl ?_
    refine ⟨?_, rfl, hX, hF⟩
    simp_all [ruleS]
  refine st_tabK 4 (v := 4) (tgt := 84) dX6_rule_1 rfl rfl (by decide) (by decide) (fun c_1_4 => ?_) (fun c_1_4 t_1_4 => ?_)
  · refine st_aload_n (q := 85) dX6_rule_84 rfl rfl rfl ?_
    refine g_getO (q := 88) dX6_rule_85 rfl fl_X6_10.g hX.x rfl ?_
    refine g_get (q := 91) dX6_rule_88 rfl fl_X6_107.g hX.now rfl ?_
    refine st_ireturn dX6_rule_91 rfl ?_
    refine ⟨?_, rfl, hX, hF⟩
    simp_all [ruleS]
  refine st_tabK 5 (v := 5) (tgt := 92) dX6_rule_1 rfl rfl (by decide) (by decide) (fun c_1_5 => ?_) (fun c_1_5 t_1_5 => ?_)
  · refine st_aload_n (q := 93) dX6_rule_92 rfl rfl rfl ?_
    refine g_getO (q := 96) dX6_rule_93 rfl fl_X6_10.g hX.x rfl ?_
    refine g_get (q := 99) dX6_rule_96 rfl fl_X6_110.g hX.now rfl ?_
    refine st_ireturn dX6_rule_99 rfl ?_
    refine ⟨?_, rfl, hX, hF⟩
    simp_all [ruleS]
  refine st_tabK 6 (v := 6) (tgt := 100) dX6_rule_1 rfl rfl (by decide) (by decide) (fun c_1_6 => ?_) (fun c_1_6 t_1_6 => ?_)
  · refine st_aload_n (q := 101) dX6_rule_100 rfl rfl rfl ?_
    refine g_getO (q := 104) dX6_rule_101 rfl fl_X6_10.g hX.x rfl ?_
    refine g_get (q := 107) dX6_rule_104 rfl fl_X6_113.g hX.now rfl ?_
    refine st_ireturn dX6_rule_107 rfl ?_
    refine ⟨?_, rfl, hX, hF⟩
    simp_all [ruleS]
  refine st_tabK 7 (v := 7) (tgt := 108) dX6_rule_1 rfl rfl (by decide) (by decide) (fun c_1_7 => ?_) (fun c_1_7 t_1_7 => ?_)
  · refine st_aload_n (q := 109) dX6_rule_108 rfl rfl rfl ?_
    refine g_getO (q := 112) dX6_rule_109 rfl fl_X6_10.g hX.x rfl ?_
    refine g_get (q := 115) dX6_rule_112 rfl fl_X6_116.g hX.now rfl ?_
    refine st_ireturn dX6_rule_115 rfl ?_
    refine ⟨?_, rfl, hX, hF⟩
    simp_all [ruleS]
  refine st_tabK 8 (v := 8) (tgt := 116) dX6_rule_1 rfl rfl (by decide) (by decide) (fun c_1_8 => ?_) (fun c_1_8 t_1_8 => ?_)
  · refine st_aload_n (q := 117) dX6_rule_116 rfl rfl rfl ?_
    refine g_getO (q := 120) dX6_rule_117 rfl fl_X6_10.g hX.x rfl ?_
    refine g_get (q := 123) dX6_rule_120 rfl fl_X6_119.g hX.now rfl ?_
    refine st_ireturn dX6_rule_123 rfl ?_
    refine ⟨?_, rfl, hX, hF⟩
    simp_all [ruleS]
  refine st_tableOut (tgt := 124) dX6_rule_1 (by omega) rfl ?_
  refine st_iconst (q := 125) dX6_rule_124 rfl ic_m1 ?_
  refine st_ireturn dX6_rule_125 rfl ?_
  refine ⟨?_, rfl, hX, hF⟩
  simp_all [ruleS]
set_option maxRecDepth 100000 in
set_option maxHeartbeats 4000000 in
theorem c_X6_house {E : ev_E} {X Tn : gT} {Ti : Nat → gT} {Tp Sg : gT} {Sh : Nat → gT} {n : Nat} {w : ev_W} (hX : XI X Tn Ti Tp Sg Sh n w) {nh nt dd : Nat} (hK : TK Tn nh nt dd) {x y : Int32} : Ct E mX6_house [.ref 0, .int x, .int y] n w (ev_xr (houseS Tn nh nt x y) n w (XI X Tn Ti Tp Sg Sh n)) := by
  refine Ct.of 0 (by decide) (Nat.le_of_ble_eq_true rfl) rfl ?_
  have hF : Fr 0 70 w w := Fr.rf
  refine st_aload_n (q := 1) dX6_house_0 rfl rfl rfl ?_
  refine g_getO (q := 4) dX6_house_1 rfl fl_X6_10.g hX.x rfl ?_
  refine st_iload_n (q := 5) dX6_house_4 rfl rfl rfl ?_
  refine sp_V1 (q := 8) (M' := mX5_isHouse) dX6_house_5 rfl ok_X5_isHouse mk_X5_isHouse ml_X6_122 ⟨Nat.le_of_ble_eq_true rfl, Nat.le_of_ble_eq_true rfl⟩ rfl (Nat.le_of_ble_eq_true rfl) (g_rv hX.now rfl) ⟨rfl, rfl⟩ (c_X5_isHouse hX.now) ?_
  refine st_if_eq (q := 11) (tgt := 20) dX6_house_8 rfl rfl (fun c_8 => ?_) (fun c_8 => ?_)
  · refine st_iconst (q := 21) dX6_house_20 rfl ic_m1 ?_
    refine st_ireturn dX6_house_21 rfl ?_
    first
      | exact ⟨by rw [houseS, if_neg (by rw [← hK.1, zI_0.mp c_8]; decide)], rfl, hX, hF⟩
      | exact ⟨by rw [houseS, if_pos (by rw [← hK.1]; exact zI_1.mp c_8), if_neg (by rw [zI_0.mp c_17]; decide)], rfl, hX, hF⟩
  · refine st_iload_n (q := 12) dX6_house_11 rfl rfl rfl ?_
    refine st_iconst (q := 13) dX6_house_12 rfl ic_0 ?_
    refine st_iconst (q := 14) dX6_house_13 rfl ic_5 ?_
    refine sp_S3 (q := 17) (M' := mX6_within) dX6_house_14 rfl ok_X6_within mk_X6_within ml_X6_51 ⟨Nat.le_of_ble_eq_true rfl, Nat.le_of_ble_eq_true rfl⟩ rfl (Nat.le_of_ble_eq_true rfl) ⟨rfl, rfl⟩ (c_X6_within) ?_
    refine st_if_ne (q := 20) (tgt := 22) dX6_house_17 rfl rfl (fun c_17 => ?_) (fun c_17 => ?_)
    · obtain ⟨j, hj, rfl⟩ := inI_ix (by rw [← hK.1]; exact zI_1.mp c_8) (by have := hK.2.1; omega)
      have h1 : inI (nI j) 0 (nI nh - 1) = true := by rw [← hK.1]; exact zI_1.mp c_8
      have hjc : (nI j).toNatClampNeg = j := nI_clamp (by have := hK.2.1; omega)
      have hK4 := hK.2.1
      refine st_iload_n (q := 23) dX6_house_22 rfl rfl rfl ?_
      refine st_lkK (v := 4) (key := 4) (tgt := 48) dX6_house_23 rfl (by decide) rfl rfl (fun c_23_0 => ?_) (fun c_23_0 t_23_0 => ?_)
      · refine st_aload_n (q := 49) dX6_house_48 rfl rfl rfl ?_
        refine g_getO (q := 52) dX6_house_49 rfl fl_X6_10.g hX.x rfl ?_
        refine st_iload_n (q := 53) dX6_house_52 rfl rfl rfl ?_
        refine sp_V1 (q := 56) (M' := mX5_filledOf) dX6_house_53 rfl ok_X5_filledOf mk_X5_filledOf ml_X6_125 ⟨Nat.le_of_ble_eq_true rfl, Nat.le_of_ble_eq_true rfl⟩ rfl (Nat.le_of_ble_eq_true rfl) (g_rv hX.now rfl) ⟨rfl, rfl⟩ (c_X5_filledOf hX.now hK.2.2.1 hK.2.2.2.1) ?_
        refine st_ireturn dX6_house_56 rfl ?_
        exact ⟨by rw [houseS, if_pos h1, if_pos (zI_1.mp c_17), if_pos c_23_0], rfl, hX, hF⟩
      refine st_lkK (v := 5) (key := 5) (tgt := 57) dX6_house_23 rfl (by decide) rfl rfl (fun c_23_1 => ?_) (fun c_23_1 t_23_1 => ?_)
      · refine st_aload_n (q := 58) dX6_house_57 rfl rfl rfl ?_
        refine g_getO (q := 61) dX6_house_58 rfl fl_X6_10.g hX.x rfl ?_
        refine st_iload_n (q := 62) dX6_house_61 rfl rfl rfl ?_
        refine sp_V1 (q := 65) (M' := mX5_thingsOf) dX6_house_62 rfl ok_X5_thingsOf mk_X5_thingsOf ml_X6_129 ⟨Nat.le_of_ble_eq_true rfl, Nat.le_of_ble_eq_true rfl⟩ rfl (Nat.le_of_ble_eq_true rfl) (g_rv hX.now rfl) ⟨rfl, rfl⟩ (c_X5_thingsOf hX.now hK.2.2.1 hK.2.2.2.1) ?_
        refine st_ireturn dX6_house_65 rfl ?_
        exact ⟨by rw [houseS, if_pos h1, if_pos (zI_1.mp c_17), if_neg c_23_0, if_pos c_23_1], rfl, hX, hF⟩
      refine st_lookup (tgt := 66) (off := 43) dX6_house_23 rfl (by simp [Op.lookupswitch.offset, t_23_0, t_23_1]) rfl ?_
      refine st_aload_n (q := 67) dX6_house_66 rfl rfl rfl ?_
      refine g_getO (q := 70) dX6_house_67 rfl fl_X6_10.g hX.x rfl ?_
      refine st_iload_n (q := 71) dX6_house_70 rfl rfl rfl ?_
      refine sp_V1 (q := 74) (M' := mX5_houseRow) dX6_house_71 rfl ok_X5_houseRow mk_X5_houseRow ml_X6_132 ⟨Nat.le_of_ble_eq_true rfl, Nat.le_of_ble_eq_true rfl⟩ rfl (Nat.le_of_ble_eq_true rfl) (g_rv hX.now rfl) ⟨rfl, rfl⟩ (c_X5_houseRow hX.now) ?_
      refine st_iload_n (q := 75) dX6_house_74 rfl rfl rfl ?_
      have ho : gnth layX5 (hrI y) = some (1, hrI y, 0, 4) := by unfold hrI; split; rfl; split; rfl; split <;> rfl
      refine g_iald (q := 76) dX6_house_75 rfl gkX5 hX.now (i := hrI y) ho (ev_ix_nI (j := j) (by omega) (by decide)) ?_
      refine st_ireturn dX6_house_76 rfl ?_
      exact ⟨by rw [houseS, if_pos h1, if_pos (zI_1.mp c_17), if_neg c_23_0, if_neg c_23_1, hjc], rfl, hX, hF⟩
    · refine st_iconst (q := 21) dX6_house_20 rfl ic_m1 ?_
      refine st_ireturn dX6_house_21 rfl ?_
      first
        | exact ⟨by rw [houseS, if_neg (by rw [← hK.1, zI_0.mp c_8]; decide)], rfl, hX, hF⟩
        | exact ⟨by rw [houseS, if_pos (by rw [← hK.1]; exact zI_1.mp c_8), if_neg (by rw [zI_0.mp c_17]; decide)], rfl, hX, hF⟩
set_option maxRecDepth 100000 in
set_option maxHeartbeats 4000000 in
theorem c_X6_thing {E : ev_E} {X Tn : gT} {Ti : Nat → gT} {Tp Sg : gT} {Sh : Nat → gT} {n : Nat} {w : ev_W} (hX : XI X Tn Ti Tp Sg Sh n w) {nh nt dd : Nat} (hK : TK Tn nh nt dd) {x y : Int32} : Ct E mX6_thing [.ref 0, .int x, .int y] n w (ev_xr (thingS Tn nt x y) n w (XI X Tn Ti Tp Sg Sh n)) := by
  refine Ct.of 0 (by decide) (Nat.le_of_ble_eq_true rfl) rfl ?_
  have hF : Fr 0 70 w w := Fr.rf
  refine st_aload_n (q := 1) dX6_thing_0 rfl rfl rfl ?_
  refine g_getO (q := 4) dX6_thing_1 rfl fl_X6_10.g hX.x rfl ?_
  refine st_iload_n (q := 5) dX6_thing_4 rfl rfl rfl ?_
  refine sp_V1 (q := 8) (M' := mX5_isThing) dX6_thing_5 rfl ok_X5_isThing mk_X5_isThing ml_X6_136 ⟨Nat.le_of_ble_eq_true rfl, Nat.le_of_ble_eq_true rfl⟩ rfl (Nat.le_of_ble_eq_true rfl) (g_rv hX.now rfl) ⟨rfl, rfl⟩ (c_X5_isThing hX.now) ?_
  refine st_if_ne (q := 11) (tgt := 13) dX6_thing_8 rfl rfl (fun c_8 => ?_) (fun c_8 => ?_)
  · obtain ⟨j, hj, rfl⟩ := inI_ix (by rw [← hK.2.2.1]; exact zI_1.mp c_8) (by have := hK.2.2.2.1; omega)
    have h1 : inI (nI j) 0 (nI nt - 1) = true := by rw [← hK.2.2.1]; exact zI_1.mp c_8
    have hjc : (nI j).toNatClampNeg = j := nI_clamp (by have := hK.2.2.2.1; omega)
    have hK4 := hK.2.2.2.1
    refine st_iload_n (q := 14) dX6_thing_13 rfl rfl rfl ?_
    refine st_tabK 0 (v := 0) (tgt := 56) dX6_thing_14 rfl rfl (by decide) (by decide) (fun c_14_0 => ?_) (fun c_14_0 t_14_0 => ?_)
    · refine st_aload_n (q := 57) dX6_thing_56 rfl rfl rfl ?_
      refine g_getO (q := 60) dX6_thing_57 rfl fl_X6_10.g hX.x rfl ?_
      refine g_getA (q := 63) dX6_thing_60 rfl fl_X6_139 hX.now rfl ?_
      refine st_iload_n (q := 64) dX6_thing_63 rfl rfl rfl ?_
      refine g_iald (q := 65) dX6_thing_64 rfl gkX5 hX.now (i := 7) rfl (by exact ev_ix_nI (j := j) (by omega) (by decide)) ?_
      refine st_ireturn dX6_thing_65 rfl ?_
      refine ⟨?_, rfl, hX, hF⟩
      rw [thingS, if_pos h1, hjc]
      simp_all
    refine st_tabK 1 (v := 1) (tgt := 66) dX6_thing_14 rfl rfl (by decide) (by decide) (fun c_14_1 => ?_) (fun c_14_1 t_14_1 => ?_)
    · refine st_aload_n (q := 67) dX6_thing_66 rfl rfl rfl ?_
      refine g_getO (q := 70) dX6_thing_67 rfl fl_X6_10.g hX.x rfl ?_
      refine g_getA (q := 73) dX6_thing_70 rfl fl_X6_143 hX.now rfl ?_
      refine st_iload_n (q := 74) dX6_thing_73 rfl rfl rfl ?_
      refine g_iald (q := 75) dX6_thing_74 rfl gkX5 hX.now (i := 8) rfl (by exact ev_ix_nI (j := j) (by omega) (by decide)) ?_
      refine st_ireturn dX6_thing_75 rfl ?_
      refine ⟨?_, rfl, hX, hF⟩
      rw [thingS, if_pos h1, hjc]
      simp_all
    refine st_tabK 2 (v := 2) (tgt := 76) dX6_thing_14 rfl rfl (by decide) (by decide) (fun c_14_2 => ?_) (fun c_14_2 t_14_2 => ?_)
    · refine st_aload_n (q := 77) dX6_thing_76 rfl rfl rfl ?_
      refine g_getO (q := 80) dX6_thing_77 rfl fl_X6_10.g hX.x rfl ?_
      refine g_getA (q := 83) dX6_thing_80 rfl fl_X6_146 hX.now rfl ?_
      refine st_iload_n (q := 84) dX6_thing_83 rfl rfl rfl ?_
      refine g_iald (q := 85) dX6_thing_84 rfl gkX5 hX.now (i := 9) rfl (by exact ev_ix_nI (j := j) (by omega) (by decide)) ?_
      refine st_ireturn dX6_thing_85 rfl ?_
      refine ⟨?_, rfl, hX, hF⟩
      rw [thingS, if_pos h1, hjc]
      simp_all
    refine st_tabK 3 (v := 3) (tgt := 86) dX6_thing_14 rfl rfl (by decide) (by decide) (fun c_14_3 => ?_) (fun c_14_3 t_14_3 => ?_)
    · refine st_aload_n (q := 87) dX6_thing_86 rfl rfl rfl ?_
      refine g_getO (q := 90) dX6_thing_87 rfl fl_X6_10.g hX.x rfl ?_
      refine g_getA (q := 93) dX6_thing_90 rfl fl_X6_149 hX.now rfl ?_
      refine st_iload_n (q := 94) dX6_thing_93 rfl rfl rfl ?_
      refine g_iald (q := 95) dX6_thing_94 rfl gkX5 hX.now (i := 10) rfl (by exact ev_ix_nI (j := j) (by omega) (by decide)) ?_
      refine st_ireturn dX6_thing_95 rfl ?_
      refine ⟨?_, rfl, hX, hF⟩
      rw [thingS, if_pos h1, hjc]
      simp_all
    refine st_tabK 4 (v := 4) (tgt := 96) dX6_thing_14 rfl rfl (by decide) (by decide) (fun c_14_4 => ?_) (fun c_14_4 t_14_4 => ?_)
    · refine st_aload_n (q := 97) dX6_thing_96 rfl rfl rfl ?_
      refine g_getO (q := 100) dX6_thing_97 rfl fl_X6_10.g hX.x rfl ?_
      refine st_iload_n (q := 101) dX6_thing_100 rfl rfl rfl ?_
      refine sp_V1 (q := 104) (M' := mX5_whereIs) dX6_thing_101 rfl ok_X5_whereIs mk_X5_whereIs ml_X6_152 ⟨Nat.le_of_ble_eq_true rfl, Nat.le_of_ble_eq_true rfl⟩ rfl (Nat.le_of_ble_eq_true rfl) (g_rv hX.now rfl) ⟨rfl, rfl⟩ (c_X5_whereIs hX.now) ?_
      refine st_ireturn dX6_thing_104 rfl ?_
      refine ⟨?_, rfl, hX, hF⟩
      rw [thingS, if_pos h1, hjc]
      simp_all
    refine st_tabK 5 (v := 5) (tgt := 105) dX6_thing_14 rfl rfl (by decide) (by decide) (fun c_14_5 => ?_) (fun c_14_5 t_14_5 => ?_)
    · refine st_aload_n (q := 106) dX6_thing_105 rfl rfl rfl ?_
      refine g_getO (q := 109) dX6_thing_106 rfl fl_X6_10.g hX.x rfl ?_
      refine st_iload_n (q := 110) dX6_thing_109 rfl rfl rfl ?_
      refine sp_V1 (q := 113) (M' := mX5_fillOf) dX6_thing_110 rfl ok_X5_fillOf mk_X5_fillOf ml_X6_155 ⟨Nat.le_of_ble_eq_true rfl, Nat.le_of_ble_eq_true rfl⟩ rfl (Nat.le_of_ble_eq_true rfl) (g_rv hX.now rfl) ⟨rfl, rfl⟩ (c_X5_fillOf hX.now (by exact ev_ix_nI (j := j) (by omega) (by decide))) ?_
      refine st_ireturn dX6_thing_113 rfl ?_
      refine ⟨?_, rfl, hX, hF⟩
      rw [thingS, if_pos h1, hjc]
      simp_all
    refine st_tabK 6 (v := 6) (tgt := 114) dX6_thing_14 rfl rfl (by decide) (by decide) (fun c_14_6 => ?_) (fun c_14_6 t_14_6 => ?_)
    · refine st_aload_n (q := 115) dX6_thing_114 rfl rfl rfl ?_
      refine g_getO (q := 118) dX6_thing_115 rfl fl_X6_10.g hX.x rfl ?_
      refine st_iload_n (q := 119) dX6_thing_118 rfl rfl rfl ?_
      refine sp_V1 (q := 122) (M' := mX5_costOf) dX6_thing_119 rfl ok_X5_costOf mk_X5_costOf ml_X6_158 ⟨Nat.le_of_ble_eq_true rfl, Nat.le_of_ble_eq_true rfl⟩ rfl (Nat.le_of_ble_eq_true rfl) (g_rv hX.now rfl) ⟨rfl, rfl⟩ (c_X5_costOf hX.now (by exact ev_ix_nI (j := j) (by omega) (by decide))) ?_
      refine st_ireturn dX6_thing_122 rfl ?_
      refine ⟨?_, rfl, hX, hF⟩
      rw [thingS, if_pos h1, hjc]
      simp_all
    refine st_tableOut (tgt := 123) dX6_thing_14 (by omega) rfl ?_
    refine st_iconst (q := 124) dX6_thing_123 rfl ic_m1 ?_
    refine st_ireturn dX6_thing_124 rfl ?_
    refine ⟨?_, rfl, hX, hF⟩
    rw [thingS, if_pos h1, hjc]
    simp_all
  · refine st_iconst (q := 12) dX6_thing_11 rfl ic_m1 ?_
    refine st_ireturn dX6_thing_12 rfl ?_
    exact ⟨by rw [thingS, if_neg (by rw [← hK.2.2.1, zI_0.mp c_8]; decide)], rfl, hX, hF⟩
set_option maxRecDepth 100000 in
set_option maxHeartbeats 4000000 in
theorem c_X6_rise {E : ev_E} {X Tn : gT} {Ti : Nat → gT} {Tp Sg : gT} {Sh : Nat → gT} {n : Nat} {w : ev_W} (hX : XI X Tn Ti Tp Sg Sh n w) {x : Int32} : Ct E mX6_rise [.ref 0, .int x] n w (ev_xr (riseS Tn x) n w (XI X Tn Ti Tp Sg Sh n)) := by
  refine Ct.of 0 (by decide) (Nat.le_of_ble_eq_true rfl) rfl ?_
  have hF : Fr 0 70 w w := Fr.rf
  refine st_iload_n (q := 1) dX6_rise_0 rfl rfl rfl ?_
  refine sp_S1 (q := 4) (M' := mX6_isWeekday) dX6_rise_1 rfl ok_X6_isWeekday mk_X6_isWeekday ml_X6_161 ⟨Nat.le_of_ble_eq_true rfl, Nat.le_of_ble_eq_true rfl⟩ rfl (Nat.le_of_ble_eq_true rfl) ⟨rfl, rfl⟩ (c_X6_isWeekday) ?_
  refine st_if_eq (q := 7) (tgt := 19) dX6_rise_4 rfl rfl (fun c_4 => ?_) (fun c_4 => ?_)
  · refine st_iconst (q := 20) dX6_rise_19 rfl ic_m1 ?_
    refine st_ireturn dX6_rise_20 rfl ?_
    first
      | exact ⟨by rw [riseS, if_neg (by rw [zI_0.mp c_4]; decide)], rfl, hX, hF⟩
      | exact ⟨by rw [riseS, if_pos h1, hjc], rfl, hX, hF⟩
  · obtain ⟨j, hj, rfl⟩ := inI_k (k := 6) (zI_1.mp c_4) (by decide)
    have h1 : inI (nI j) 0 6 = true := zI_1.mp c_4
    have hjc : (nI j).toNatClampNeg = j := nI_clamp (by omega)
    refine st_aload_n (q := 8) dX6_rise_7 rfl rfl rfl ?_
    refine g_getO (q := 11) dX6_rise_8 rfl fl_X6_10.g hX.x rfl ?_
    refine g_getA (q := 14) dX6_rise_11 rfl fl_X6_164 hX.now rfl ?_
    refine st_iload_n (q := 15) dX6_rise_14 rfl rfl rfl ?_
    refine g_iald (q := 16) dX6_rise_15 rfl gkX5 hX.now (i := 13) rfl (by exact ev_ix_nI (j := j) (by omega) (by decide)) ?_
    refine st_goto (q := 20) dX6_rise_16 rfl ?_
    refine st_ireturn dX6_rise_20 rfl ?_
    first
      | exact ⟨by rw [riseS, if_neg (by rw [zI_0.mp c_4]; decide)], rfl, hX, hF⟩
      | exact ⟨by rw [riseS, if_pos h1, hjc], rfl, hX, hF⟩
theorem ev_xr_of {r : Int32 × gT} {n : Nat} {w u : ev_W} {v : Int32} {T : gT} {G : gT → ev_W → Prop} (e : r = (v, T)) (hX : G T u) (hF : Fr 0 70 w u) : ev_xr r.1 n w (G r.2) (some (.int v)) n u := by subst e; exact ⟨rfl, rfl, hX, hF⟩
theorem moH_at {j : Nat} (h : j ≤ 3) : ev_li [20, 40, 3, 99] j = .int (moH (nI j)) := by
  match j, h with
  | 0, _ => rfl
  | 1, _ => rfl
  | 2, _ => rfl
  | 3, _ => rfl
theorem leT_at {j : Nat} (h : j ≤ 2) : ev_li [0, 1, 0] j = .int (leT (nI j)) := by
  match j, h with
  | 0, _ => rfl
  | 1, _ => rfl
  | 2, _ => rfl
theorem moT_at {j : Nat} (h : j ≤ 2) : ev_li [3, 9, 9] j = .int (moT (nI j)) := by
  match j, h with
  | 0, _ => rfl
  | 1, _ => rfl
  | 2, _ => rfl
theorem hrI_ok (y : Int32) : gnth layX5 (hrI y) = some (1, hrI y, 0, 4) := by unfold hrI; split; rfl; split; rfl; split <;> rfl
theorem tsI_ok (y : Int32) : gnth layX5 (tsI y) = some (1, trI y, 0, 8) := by unfold tsI trI; split; rfl; split <;> rfl
set_option maxRecDepth 100000 in
set_option maxHeartbeats 4000000 in
theorem c_X6_build {E : ev_E} {X Tn : gT} {Ti : Nat → gT} {Tp Sg : gT} {Sh : Nat → gT} {n : Nat} {w : ev_W} (hX : XI X Tn Ti Tp Sg Sh n w) {nh nt dd : Nat} (hK : TK Tn nh nt dd) {x y z : Int32} : Ct E mX6_build [.ref 0, .int x, .int y, .int z] n w (ev_xr (buildS Tn nh x y z).1 n w (XI X (buildS Tn nh x y z).2 Ti Tp Sg Sh n)) := by
  refine Ct.of 0 (by decide) (Nat.le_of_ble_eq_true rfl) rfl ?_
  have hF : Fr 0 70 w w := Fr.rf
  refine st_aload_n (q := 1) dX6_build_0 rfl rfl rfl ?_
  refine g_getO (q := 4) dX6_build_1 rfl fl_X6_10.g hX.x rfl ?_
  refine st_iload_n (q := 5) dX6_build_4 rfl rfl rfl ?_
  refine sp_V1 (q := 8) (M' := mX5_isHouse) dX6_build_5 rfl ok_X5_isHouse mk_X5_isHouse ml_X6_122 ⟨Nat.le_of_ble_eq_true rfl, Nat.le_of_ble_eq_true rfl⟩ rfl (Nat.le_of_ble_eq_true rfl) (g_rv hX.now rfl) ⟨rfl, rfl⟩ (c_X5_isHouse hX.now) ?_
  refine st_if_eq (q := 11) (tgt := 33) dX6_build_8 rfl rfl (fun c_8 => ?_) (fun c_8 => ?_)
  · refine st_iconst (q := 34) dX6_build_33 rfl ic_m1 ?_
    refine st_ireturn dX6_build_34 rfl ?_
    first
      | exact ev_xr_of (G := fun T => XI X T Ti Tp Sg Sh _) (by rw [buildS, if_neg (by rw [← hK.1, zI_0.mp c_8]; decide)]) hX hF
      | exact ev_xr_of (G := fun T => XI X T Ti Tp Sg Sh _) (by rw [buildS, if_pos (by rw [← hK.1]; exact zI_1.mp c_8), if_neg (by rw [zI_0.mp c_17]; decide)]) hX hF
      | exact ev_xr_of (G := fun T => XI X T Ti Tp Sg Sh _) (by rw [buildS, if_pos (by rw [← hK.1]; exact zI_1.mp c_8), if_pos h2, if_neg (by rw [zI_0.mp c_30]; decide)]) hX hF
  · refine st_iload_n (q := 12) dX6_build_11 rfl rfl rfl ?_
    refine st_iconst (q := 13) dX6_build_12 rfl ic_0 ?_
    refine st_iconst (q := 14) dX6_build_13 rfl ic_3 ?_
    refine sp_S3 (q := 17) (M' := mX6_within) dX6_build_14 rfl ok_X6_within mk_X6_within ml_X6_51 ⟨Nat.le_of_ble_eq_true rfl, Nat.le_of_ble_eq_true rfl⟩ rfl (Nat.le_of_ble_eq_true rfl) ⟨rfl, rfl⟩ (c_X6_within) ?_
    refine st_if_eq (q := 20) (tgt := 33) dX6_build_17 rfl rfl (fun c_17 => ?_) (fun c_17 => ?_)
    · refine st_iconst (q := 34) dX6_build_33 rfl ic_m1 ?_
      refine st_ireturn dX6_build_34 rfl ?_
      first
        | exact ev_xr_of (G := fun T => XI X T Ti Tp Sg Sh _) (by rw [buildS, if_neg (by rw [← hK.1, zI_0.mp c_8]; decide)]) hX hF
        | exact ev_xr_of (G := fun T => XI X T Ti Tp Sg Sh _) (by rw [buildS, if_pos (by rw [← hK.1]; exact zI_1.mp c_8), if_neg (by rw [zI_0.mp c_17]; decide)]) hX hF
        | exact ev_xr_of (G := fun T => XI X T Ti Tp Sg Sh _) (by rw [buildS, if_pos (by rw [← hK.1]; exact zI_1.mp c_8), if_pos h2, if_neg (by rw [zI_0.mp c_30]; decide)]) hX hF
    · obtain ⟨m, hm, rfl⟩ := inI_k (k := 3) (zI_1.mp c_17) (by decide)
      have h2 : inI (nI m) 0 3 = true := zI_1.mp c_17
      refine st_iload_n (q := 21) dX6_build_20 rfl rfl rfl ?_
      refine st_iconst (q := 22) dX6_build_21 rfl ic_0 ?_
      refine st_getstatic (q := 25) dX6_build_22 rfl (C := "ArkTerrace") (nm := "HOUSE_MOST") (ds := "[I") (v := .ref 1000) (List.mem_of_getElem? (i := 0) rfl) fl_X6_167 rfl ?_
      refine st_iload_n (q := 26) dX6_build_25 rfl rfl rfl ?_
      refine st_ialoadX (q := 27) dX6_build_26 rfl (List.mem_of_getElem? (i := 0) rfl) (by decide) (ev_ix_nI (j := m) (by omega) (by decide)) (moH_at hm) ?_
      refine sp_S3 (q := 30) (M' := mX6_within) dX6_build_27 rfl ok_X6_within mk_X6_within ml_X6_51 ⟨Nat.le_of_ble_eq_true rfl, Nat.le_of_ble_eq_true rfl⟩ rfl (Nat.le_of_ble_eq_true rfl) ⟨rfl, rfl⟩ (c_X6_within) ?_
      refine st_if_ne (q := 33) (tgt := 35) dX6_build_30 rfl rfl (fun c_30 => ?_) (fun c_30 => ?_)
      · obtain ⟨j, hj, rfl⟩ := inI_ix (by rw [← hK.1]; exact zI_1.mp c_8) (by have := hK.2.1; omega)
        have h1 : inI (nI j) 0 (nI nh - 1) = true := by rw [← hK.1]; exact zI_1.mp c_8
        have hjc : (nI j).toNatClampNeg = j := nI_clamp (by have := hK.2.1; omega)
        have hK4 := hK.2.1
        refine st_aload_n (q := 36) dX6_build_35 rfl rfl rfl ?_
        refine g_getO (q := 39) dX6_build_36 rfl fl_X6_10.g hX.x rfl ?_
        refine st_iload_n (q := 40) dX6_build_39 rfl rfl rfl ?_
        refine sp_V1 (q := 43) (M' := mX5_houseRow) dX6_build_40 rfl ok_X5_houseRow mk_X5_houseRow ml_X6_132 ⟨Nat.le_of_ble_eq_true rfl, Nat.le_of_ble_eq_true rfl⟩ rfl (Nat.le_of_ble_eq_true rfl) (g_rv hX.now rfl) ⟨rfl, rfl⟩ (c_X5_houseRow hX.now) ?_
        refine st_iload_n (q := 44) dX6_build_43 rfl rfl rfl ?_
        refine st_iload_n (q := 45) dX6_build_44 rfl rfl rfl ?_
        refine sm_S3 (q := 48) (M' := mX6_replace) dX6_build_45 rfl ok_X6_replace mk_X6_replace ml_X6_170 ⟨Nat.le_of_ble_eq_true rfl, Nat.le_of_ble_eq_true rfl⟩ rfl (Nat.le_of_ble_eq_true rfl) ⟨rfl, rfl⟩ (g_rpl gkX5 hX.now (hrI_ok (nI m)) (ev_ix_nI (j := j) (by omega) (by decide))) ?_
        intro _ n w h9 _
        obtain ⟨rfl, rfl, hZ, hF_⟩ := h9
        replace hX := hX.setNow hZ hF_
        replace hF := Fr.tr hF (hF_.mono (by omega) (by omega))
        refine st_ireturn dX6_build_48 rfl ?_
        exact ev_xr_of (G := fun T => XI X T Ti Tp Sg Sh _) (by rw [buildS, if_pos h1, if_pos h2, if_pos (zI_1.mp c_30), hjc]) hX hF
      · refine st_iconst (q := 34) dX6_build_33 rfl ic_m1 ?_
        refine st_ireturn dX6_build_34 rfl ?_
        first
          | exact ev_xr_of (G := fun T => XI X T Ti Tp Sg Sh _) (by rw [buildS, if_neg (by rw [← hK.1, zI_0.mp c_8]; decide)]) hX hF
          | exact ev_xr_of (G := fun T => XI X T Ti Tp Sg Sh _) (by rw [buildS, if_pos (by rw [← hK.1]; exact zI_1.mp c_8), if_neg (by rw [zI_0.mp c_17]; decide)]) hX hF
          | exact ev_xr_of (G := fun T => XI X T Ti Tp Sg Sh _) (by rw [buildS, if_pos (by rw [← hK.1]; exact zI_1.mp c_8), if_pos h2, if_neg (by rw [zI_0.mp c_30]; decide)]) hX hF
set_option maxRecDepth 100000 in
set_option maxHeartbeats 4000000 in
theorem c_X6_alter {E : ev_E} {X Tn : gT} {Ti : Nat → gT} {Tp Sg : gT} {Sh : Nat → gT} {n : Nat} {w : ev_W} (hX : XI X Tn Ti Tp Sg Sh n w) {nh nt dd : Nat} (hK : TK Tn nh nt dd) {x y z : Int32} : Ct E mX6_alter [.ref 0, .int x, .int y, .int z] n w (ev_xr (alterS Tn nt x y z).1 n w (XI X (alterS Tn nt x y z).2 Ti Tp Sg Sh n)) := by
  refine Ct.of 0 (by decide) (Nat.le_of_ble_eq_true rfl) rfl ?_
  have hF : Fr 0 70 w w := Fr.rf
  refine st_aload_n (q := 1) dX6_alter_0 rfl rfl rfl ?_
  refine g_getO (q := 4) dX6_alter_1 rfl fl_X6_10.g hX.x rfl ?_
  refine st_iload_n (q := 5) dX6_alter_4 rfl rfl rfl ?_
  refine sp_V1 (q := 8) (M' := mX5_isThing) dX6_alter_5 rfl ok_X5_isThing mk_X5_isThing ml_X6_136 ⟨Nat.le_of_ble_eq_true rfl, Nat.le_of_ble_eq_true rfl⟩ rfl (Nat.le_of_ble_eq_true rfl) (g_rv hX.now rfl) ⟨rfl, rfl⟩ (c_X5_isThing hX.now) ?_
  refine st_if_eq (q := 11) (tgt := 37) dX6_alter_8 rfl rfl (fun c_8 => ?_) (fun c_8 => ?_)
  · refine st_iconst (q := 38) dX6_alter_37 rfl ic_m1 ?_
    refine st_ireturn dX6_alter_38 rfl ?_
    first
      | exact ev_xr_of (G := fun T => XI X T Ti Tp Sg Sh _) (by rw [alterS, if_neg (by rw [← hK.2.2.1, zI_0.mp c_8]; decide)]) hX hF
      | exact ev_xr_of (G := fun T => XI X T Ti Tp Sg Sh _) (by rw [alterS, if_pos (by rw [← hK.2.2.1]; exact zI_1.mp c_8), if_neg (by rw [zI_0.mp c_17]; decide)]) hX hF
      | exact ev_xr_of (G := fun T => XI X T Ti Tp Sg Sh _) (by rw [alterS, if_pos (by rw [← hK.2.2.1]; exact zI_1.mp c_8), if_pos h2, if_neg (by rw [zI_0.mp c_34]; decide)]) hX hF
  · refine st_iload_n (q := 12) dX6_alter_11 rfl rfl rfl ?_
    refine st_iconst (q := 13) dX6_alter_12 rfl ic_0 ?_
    refine st_iconst (q := 14) dX6_alter_13 rfl ic_2 ?_
    refine sp_S3 (q := 17) (M' := mX6_within) dX6_alter_14 rfl ok_X6_within mk_X6_within ml_X6_51 ⟨Nat.le_of_ble_eq_true rfl, Nat.le_of_ble_eq_true rfl⟩ rfl (Nat.le_of_ble_eq_true rfl) ⟨rfl, rfl⟩ (c_X6_within) ?_
    refine st_if_eq (q := 20) (tgt := 37) dX6_alter_17 rfl rfl (fun c_17 => ?_) (fun c_17 => ?_)
    · refine st_iconst (q := 38) dX6_alter_37 rfl ic_m1 ?_
      refine st_ireturn dX6_alter_38 rfl ?_
      first
        | exact ev_xr_of (G := fun T => XI X T Ti Tp Sg Sh _) (by rw [alterS, if_neg (by rw [← hK.2.2.1, zI_0.mp c_8]; decide)]) hX hF
        | exact ev_xr_of (G := fun T => XI X T Ti Tp Sg Sh _) (by rw [alterS, if_pos (by rw [← hK.2.2.1]; exact zI_1.mp c_8), if_neg (by rw [zI_0.mp c_17]; decide)]) hX hF
        | exact ev_xr_of (G := fun T => XI X T Ti Tp Sg Sh _) (by rw [alterS, if_pos (by rw [← hK.2.2.1]; exact zI_1.mp c_8), if_pos h2, if_neg (by rw [zI_0.mp c_34]; decide)]) hX hF
    · obtain ⟨m, hm, rfl⟩ := inI_k (k := 2) (zI_1.mp c_17) (by decide)
      have h2 : inI (nI m) 0 2 = true := zI_1.mp c_17
      refine st_iload_n (q := 21) dX6_alter_20 rfl rfl rfl ?_
      refine st_getstatic (q := 24) dX6_alter_21 rfl (C := "ArkTerrace") (nm := "THING_LEAST") (ds := "[I") (v := .ref 1001) (List.mem_of_getElem? (i := 1) rfl) fl_X6_174 rfl ?_
      refine st_iload_n (q := 25) dX6_alter_24 rfl rfl rfl ?_
      refine st_ialoadX (q := 26) dX6_alter_25 rfl (List.mem_of_getElem? (i := 1) rfl) (by decide) (ev_ix_nI (j := m) (by omega) (by decide)) (leT_at hm) ?_
      refine st_getstatic (q := 29) dX6_alter_26 rfl (C := "ArkTerrace") (nm := "THING_MOST") (ds := "[I") (v := .ref 1002) (List.mem_of_getElem? (i := 2) rfl) fl_X6_177 rfl ?_
      refine st_iload_n (q := 30) dX6_alter_29 rfl rfl rfl ?_
      refine st_ialoadX (q := 31) dX6_alter_30 rfl (List.mem_of_getElem? (i := 2) rfl) (by decide) (ev_ix_nI (j := m) (by omega) (by decide)) (moT_at hm) ?_
      refine sp_S3 (q := 34) (M' := mX6_within) dX6_alter_31 rfl ok_X6_within mk_X6_within ml_X6_51 ⟨Nat.le_of_ble_eq_true rfl, Nat.le_of_ble_eq_true rfl⟩ rfl (Nat.le_of_ble_eq_true rfl) ⟨rfl, rfl⟩ (c_X6_within) ?_
      refine st_if_ne (q := 37) (tgt := 39) dX6_alter_34 rfl rfl (fun c_34 => ?_) (fun c_34 => ?_)
      · obtain ⟨j, hj, rfl⟩ := inI_ix (by rw [← hK.2.2.1]; exact zI_1.mp c_8) (by have := hK.2.2.2.1; omega)
        have h1 : inI (nI j) 0 (nI nt - 1) = true := by rw [← hK.2.2.1]; exact zI_1.mp c_8
        have hjc : (nI j).toNatClampNeg = j := nI_clamp (by have := hK.2.2.2.1; omega)
        have hK4 := hK.2.2.2.1
        refine st_aload_n (q := 40) dX6_alter_39 rfl rfl rfl ?_
        refine g_getO (q := 43) dX6_alter_40 rfl fl_X6_10.g hX.x rfl ?_
        refine st_iload_n (q := 44) dX6_alter_43 rfl rfl rfl ?_
        refine sp_V1 (q := 47) (M' := mX5_thingRow) dX6_alter_44 rfl ok_X5_thingRow mk_X5_thingRow ml_X6_180 ⟨Nat.le_of_ble_eq_true rfl, Nat.le_of_ble_eq_true rfl⟩ rfl (Nat.le_of_ble_eq_true rfl) (g_rv hX.now rfl) ⟨rfl, rfl⟩ (c_X5_thingRow hX.now) ?_
        refine st_iload_n (q := 48) dX6_alter_47 rfl rfl rfl ?_
        refine st_iload_n (q := 49) dX6_alter_48 rfl rfl rfl ?_
        refine sm_S3 (q := 52) (M' := mX6_replace) dX6_alter_49 rfl ok_X6_replace mk_X6_replace ml_X6_170 ⟨Nat.le_of_ble_eq_true rfl, Nat.le_of_ble_eq_true rfl⟩ rfl (Nat.le_of_ble_eq_true rfl) ⟨rfl, rfl⟩ (g_rpl gkX5 hX.now (tsI_ok (nI m)) (ev_ix_nI (j := j) (by omega) (by decide))) ?_
        intro _ n w h9 _
        obtain ⟨rfl, rfl, hZ, hF_⟩ := h9
        replace hX := hX.setNow hZ hF_
        replace hF := Fr.tr hF (hF_.mono (by omega) (by omega))
        refine st_ireturn dX6_alter_52 rfl ?_
        exact ev_xr_of (G := fun T => XI X T Ti Tp Sg Sh _) (by rw [alterS, if_pos h1, if_pos h2, if_pos (zI_1.mp c_34), hjc]) hX hF
      · refine st_iconst (q := 38) dX6_alter_37 rfl ic_m1 ?_
        refine st_ireturn dX6_alter_38 rfl ?_
        first
          | exact ev_xr_of (G := fun T => XI X T Ti Tp Sg Sh _) (by rw [alterS, if_neg (by rw [← hK.2.2.1, zI_0.mp c_8]; decide)]) hX hF
          | exact ev_xr_of (G := fun T => XI X T Ti Tp Sg Sh _) (by rw [alterS, if_pos (by rw [← hK.2.2.1]; exact zI_1.mp c_8), if_neg (by rw [zI_0.mp c_17]; decide)]) hX hF
          | exact ev_xr_of (G := fun T => XI X T Ti Tp Sg Sh _) (by rw [alterS, if_pos (by rw [← hK.2.2.1]; exact zI_1.mp c_8), if_pos h2, if_neg (by rw [zI_0.mp c_34]; decide)]) hX hF
set_option maxRecDepth 100000 in
set_option maxHeartbeats 4000000 in
theorem c_X6_tide {E : ev_E} {X Tn : gT} {Ti : Nat → gT} {Tp Sg : gT} {Sh : Nat → gT} {n : Nat} {w : ev_W} (hX : XI X Tn Ti Tp Sg Sh n w) {x y : Int32} : Ct E mX6_tide [.ref 0, .int x, .int y] n w (ev_xr (tideS Tn x y).1 n w (XI X (tideS Tn x y).2 Ti Tp Sg Sh n)) := by
  refine Ct.of 0 (by decide) (Nat.le_of_ble_eq_true rfl) rfl ?_
  have hF : Fr 0 70 w w := Fr.rf
  refine st_iload_n (q := 1) dX6_tide_0 rfl rfl rfl ?_
  refine sp_S1 (q := 4) (M' := mX6_isWeekday) dX6_tide_1 rfl ok_X6_isWeekday mk_X6_isWeekday ml_X6_161 ⟨Nat.le_of_ble_eq_true rfl, Nat.le_of_ble_eq_true rfl⟩ rfl (Nat.le_of_ble_eq_true rfl) ⟨rfl, rfl⟩ (c_X6_isWeekday) ?_
  refine st_if_eq (q := 7) (tgt := 17) dX6_tide_4 rfl rfl (fun c_4 => ?_) (fun c_4 => ?_)
  · refine st_iconst (q := 18) dX6_tide_17 rfl ic_m1 ?_
    refine st_ireturn dX6_tide_18 rfl ?_
    first
      | exact ev_xr_of (G := fun T => XI X T Ti Tp Sg Sh _) (by rw [tideS, if_neg (by rw [zI_0.mp c_4]; decide)]) hX hF
      | exact ev_xr_of (G := fun T => XI X T Ti Tp Sg Sh _) (by rw [tideS, if_pos (zI_1.mp c_4), if_neg (by rw [zI_0.mp c_14]; decide)]) hX hF
  · refine st_iload_n (q := 8) dX6_tide_7 rfl rfl rfl ?_
    refine st_iconst (q := 9) dX6_tide_8 rfl ic_0 ?_
    refine st_bipush (q := 11) dX6_tide_9 rfl bp_8 ?_
    refine sp_S3 (q := 14) (M' := mX6_within) dX6_tide_11 rfl ok_X6_within mk_X6_within ml_X6_51 ⟨Nat.le_of_ble_eq_true rfl, Nat.le_of_ble_eq_true rfl⟩ rfl (Nat.le_of_ble_eq_true rfl) ⟨rfl, rfl⟩ (c_X6_within) ?_
    refine st_if_ne (q := 17) (tgt := 19) dX6_tide_14 rfl rfl (fun c_14 => ?_) (fun c_14 => ?_)
    · obtain ⟨j, hj, rfl⟩ := inI_k (k := 6) (zI_1.mp c_4) (by decide)
      have h1 : inI (nI j) 0 6 = true := zI_1.mp c_4
      have hjc : (nI j).toNatClampNeg = j := nI_clamp (by omega)
      refine st_aload_n (q := 20) dX6_tide_19 rfl rfl rfl ?_
      refine g_getO (q := 23) dX6_tide_20 rfl fl_X6_10.g hX.x rfl ?_
      refine g_getA (q := 26) dX6_tide_23 rfl fl_X6_164 hX.now rfl ?_
      refine st_iload_n (q := 27) dX6_tide_26 rfl rfl rfl ?_
      refine st_iload_n (q := 28) dX6_tide_27 rfl rfl rfl ?_
      refine sm_S3 (q := 31) (M' := mX6_replace) dX6_tide_28 rfl ok_X6_replace mk_X6_replace ml_X6_170 ⟨Nat.le_of_ble_eq_true rfl, Nat.le_of_ble_eq_true rfl⟩ rfl (Nat.le_of_ble_eq_true rfl) ⟨rfl, rfl⟩ (g_rpl (i := 13) gkX5 hX.now rfl (ev_ix_nI (j := j) (by omega) (by decide))) ?_
      intro _ n w h9 _
      obtain ⟨rfl, rfl, hZ, hF_⟩ := h9
      replace hX := hX.setNow hZ hF_
      replace hF := Fr.tr hF (hF_.mono (by omega) (by omega))
      refine st_ireturn dX6_tide_31 rfl ?_
      exact ev_xr_of (G := fun T => XI X T Ti Tp Sg Sh _) (by rw [tideS, if_pos h1, if_pos (zI_1.mp c_14), hjc]) hX hF
    · refine st_iconst (q := 18) dX6_tide_17 rfl ic_m1 ?_
      refine st_ireturn dX6_tide_18 rfl ?_
      first
        | exact ev_xr_of (G := fun T => XI X T Ti Tp Sg Sh _) (by rw [tideS, if_neg (by rw [zI_0.mp c_4]; decide)]) hX hF
        | exact ev_xr_of (G := fun T => XI X T Ti Tp Sg Sh _) (by rw [tideS, if_pos (zI_1.mp c_4), if_neg (by rw [zI_0.mp c_14]; decide)]) hX hF
set_option maxRecDepth 100000 in
set_option maxHeartbeats 4000000 in
theorem c_X6_blow {E : ev_E} {X Tn : gT} {Ti : Nat → gT} {Tp Sg : gT} {Sh : Nat → gT} {n : Nat} {w : ev_W} (hX : XI X Tn Ti Tp Sg Sh n w) {x : Int32} : Ct E mX6_blow [.ref 0, .int x] n w (ev_xr (blowS Tn x).1 n w (XI X (blowS Tn x).2 Ti Tp Sg Sh n)) := by
  refine Ct.of 1 (by decide) (Nat.le_of_ble_eq_true rfl) rfl ?_
  have hF : Fr 0 70 w w := Fr.rf
  refine st_iload_n (q := 1) dX6_blow_0 rfl rfl rfl ?_
  refine st_iconst (q := 2) dX6_blow_1 rfl ic_0 ?_
  refine st_bipush (q := 4) dX6_blow_2 rfl bp_8 ?_
  refine sp_S3 (q := 7) (M' := mX6_within) dX6_blow_4 rfl ok_X6_within mk_X6_within ml_X6_51 ⟨Nat.le_of_ble_eq_true rfl, Nat.le_of_ble_eq_true rfl⟩ rfl (Nat.le_of_ble_eq_true rfl) ⟨rfl, rfl⟩ (c_X6_within) ?_
  refine st_if_ne (q := 10) (tgt := 12) dX6_blow_7 rfl rfl (fun c_7 => ?_) (fun c_7 => ?_)
  · refine st_aload_n (q := 13) dX6_blow_12 rfl rfl rfl ?_
    refine g_getO (q := 16) dX6_blow_13 rfl fl_X6_10.g hX.x rfl ?_
    refine g_get (q := 19) dX6_blow_16 rfl fl_X6_110.g hX.now rfl ?_
    refine st_istore_n (q := 20) (L' := [_, _, _]) dX6_blow_19 rfl rfl (Nat.le_of_ble_eq_true rfl) rfl ?_
    refine st_aload_n (q := 21) dX6_blow_20 rfl rfl rfl ?_
    refine g_getO (q := 24) dX6_blow_21 rfl fl_X6_10.g hX.x rfl ?_
    refine st_iload_n (q := 25) dX6_blow_24 rfl rfl rfl ?_
    refine g_put (q := 28) dX6_blow_25 rfl fl_X6_110 gkX5 hX.now rfl rfl rfl (fun w hZ hF_ => ?_)
    replace hX := hX.setNow hZ hF_
    replace hF := Fr.tr hF (hF_.mono (by omega) (by omega))
    refine st_iload_n (q := 29) dX6_blow_28 rfl rfl rfl ?_
    refine st_ireturn dX6_blow_29 rfl ?_
    exact ev_xr_of (G := fun T => XI X T Ti Tp Sg Sh _) (by rw [blowS, if_pos (zI_1.mp c_7)]) hX hF
  · refine st_iconst (q := 11) dX6_blow_10 rfl ic_m1 ?_
    refine st_ireturn dX6_blow_11 rfl ?_
    exact ev_xr_of (G := fun T => XI X T Ti Tp Sg Sh _) (by rw [blowS, if_neg (by rw [zI_0.mp c_7]; decide)]) hX hF
set_option maxRecDepth 100000 in
set_option maxHeartbeats 4000000 in
theorem c_X6_stow {E : ev_E} {X Tn : gT} {Ti : Nat → gT} {Tp Sg : gT} {Sh : Nat → gT} {n : Nat} {w : ev_W} (hX : XI X Tn Ti Tp Sg Sh n w) {nh nt dd : Nat} (hK : TK Tn nh nt dd) {x : Int32} : Ct E mX6_stow [.ref 0, .int x] n w (ev_xr (puT Tn x nt).1 n w (XI X (puT Tn x nt).2 Ti Tp Sg Sh n)) := by
  refine Ct.of 0 (by decide) (Nat.le_of_ble_eq_true rfl) rfl ?_
  have hF : Fr 0 70 w w := Fr.rf
  refine st_aload_n (q := 1) dX6_stow_0 rfl rfl rfl ?_
  refine g_getO (q := 4) dX6_stow_1 rfl fl_X6_10.g hX.x rfl ?_
  refine st_iload_n (q := 5) dX6_stow_4 rfl rfl rfl ?_
  refine sm_V1 (q := 8) (M' := mX5_putIn) dX6_stow_5 rfl ok_X5_putIn mk_X5_putIn ml_X6_183 ⟨Nat.le_of_ble_eq_true rfl, Nat.le_of_ble_eq_true rfl⟩ rfl (Nat.le_of_ble_eq_true rfl) (g_rv hX.now rfl) ⟨rfl, rfl⟩ (c_X5_putIn hX.now hK.2.2.1 hK.2.2.2.1 hK.2.2.2.2.1) ?_
  intro _ n w h9 _
  obtain ⟨rfl, rfl, hZ, hF_⟩ := h9
  replace hX := hX.setNow hZ hF_
  replace hF := Fr.tr hF (hF_.mono (by omega) (by omega))
  refine st_ireturn dX6_stow_8 rfl ?_
  exact ⟨rfl, rfl, hX, hF⟩
set_option maxRecDepth 100000 in
set_option maxHeartbeats 4000000 in
theorem c_X6_fetch {E : ev_E} {X Tn : gT} {Ti : Nat → gT} {Tp Sg : gT} {Sh : Nat → gT} {n : Nat} {w : ev_W} (hX : XI X Tn Ti Tp Sg Sh n w) {nh nt dd : Nat} (hK : TK Tn nh nt dd) {x : Int32} : Ct E mX6_fetch [.ref 0, .int x] n w (ev_xr (tkT Tn x nt).1 n w (XI X (tkT Tn x nt).2 Ti Tp Sg Sh n)) := by
  refine Ct.of 0 (by decide) (Nat.le_of_ble_eq_true rfl) rfl ?_
  have hF : Fr 0 70 w w := Fr.rf
  refine st_aload_n (q := 1) dX6_fetch_0 rfl rfl rfl ?_
  refine g_getO (q := 4) dX6_fetch_1 rfl fl_X6_10.g hX.x rfl ?_
  refine st_iload_n (q := 5) dX6_fetch_4 rfl rfl rfl ?_
  refine sm_V1 (q := 8) (M' := mX5_takeOut) dX6_fetch_5 rfl ok_X5_takeOut mk_X5_takeOut ml_X6_186 ⟨Nat.le_of_ble_eq_true rfl, Nat.le_of_ble_eq_true rfl⟩ rfl (Nat.le_of_ble_eq_true rfl) (g_rv hX.now rfl) ⟨rfl, rfl⟩ (c_X5_takeOut hX.now hK.2.2.1 hK.2.2.2.1 hK.2.2.2.2.1) ?_
  intro _ n w h9 _
  obtain ⟨rfl, rfl, hZ, hF_⟩ := h9
  replace hX := hX.setNow hZ hF_
  replace hF := Fr.tr hF (hF_.mono (by omega) (by omega))
  refine st_ireturn dX6_fetch_8 rfl ?_
  exact ⟨rfl, rfl, hX, hF⟩
set_option maxRecDepth 100000 in
set_option maxHeartbeats 4000000 in
theorem c_X6_days {E : ev_E} {X Tn : gT} {Ti : Nat → gT} {Tp Sg : gT} {Sh : Nat → gT} {n : Nat} {w : ev_W} (hX : XI X Tn Ti Tp Sg Sh n w) {nh nt dd : Nat} (hK : TK Tn nh nt dd) {x : Int32} : Ct E mX6_days [.ref 0, .int x] n w (ev_xr (daysS Tn nh nt dd x).1 n w (XI X (daysS Tn nh nt dd x).2 Ti Tp Sg Sh n)) := by
  refine Ct.of 1 (by decide) (Nat.le_of_ble_eq_true rfl) rfl ?_
  have hF : Fr 0 70 w w := Fr.rf
  refine st_iload_n (q := 1) dX6_days_0 rfl rfl rfl ?_
  refine st_iconst (q := 2) dX6_days_1 rfl ic_0 ?_
  refine st_bipush (q := 4) dX6_days_2 rfl bp_30 ?_
  refine sp_S3 (q := 7) (M' := mX6_within) dX6_days_4 rfl ok_X6_within mk_X6_within ml_X6_51 ⟨Nat.le_of_ble_eq_true rfl, Nat.le_of_ble_eq_true rfl⟩ rfl (Nat.le_of_ble_eq_true rfl) ⟨rfl, rfl⟩ (c_X6_within) ?_
  refine st_if_ne (q := 10) (tgt := 12) dX6_days_7 rfl rfl (fun c_7 => ?_) (fun c_7 => ?_)
  · obtain ⟨m, hm, rfl⟩ := inI_k (k := 30) (zI_1.mp c_7) (by decide)
    have h1 : inI (nI m) 0 30 = true := zI_1.mp c_7
    have hmc : (nI m).toNatClampNeg = m := nI_clamp (by omega)
    have hd9 := hK.2.2.2.2.2.2
    refine st_aload_n (q := 13) dX6_days_12 rfl rfl rfl ?_
    refine g_getO (q := 16) dX6_days_13 rfl fl_X6_10.g hX.x rfl ?_
    refine g_get (q := 19) dX6_days_16 rfl fl_X6_101.g hX.now rfl ?_
    refine st_iload_n (q := 20) dX6_days_19 rfl rfl rfl ?_
    refine st_iadd (q := 21) dX6_days_20 rfl ?_
    refine st_sipush (q := 24) dX6_days_21 rfl sp_1000 ?_
    refine st_icmp_lt (q := 27) (tgt := 30) dX6_days_24 rfl rfl (fun c_24 => ?_) (fun c_24 => ?_)
    · refine st_aload_n (q := 31) dX6_days_30 rfl rfl rfl ?_
      refine g_getO (q := 34) dX6_days_31 rfl fl_X6_10.g hX.x rfl ?_
      refine g_get (q := 37) dX6_days_34 rfl fl_X6_107.g hX.now rfl ?_
      refine st_istore_n (q := 38) (L' := [_, _, _]) dX6_days_37 rfl rfl (Nat.le_of_ble_eq_true rfl) rfl ?_
      refine st_aload_n (q := 39) dX6_days_38 rfl rfl rfl ?_
      refine g_getO (q := 42) dX6_days_39 rfl fl_X6_10.g hX.x rfl ?_
      refine st_iload_n (q := 43) dX6_days_42 rfl rfl rfl ?_
      refine sm_V1 (q := 46) (M' := mX5_passDays) dX6_days_43 rfl ok_X5_passDays mk_X5_passDays ml_X6_189 ⟨Nat.le_of_ble_eq_true rfl, Nat.le_of_ble_eq_true rfl⟩ rfl (Nat.le_of_ble_eq_true rfl) (g_rv hX.now rfl) ⟨rfl, rfl⟩ (c_X5_passDays hX.now hK.2.2.1 hK.2.2.2.1 hK.1 hK.2.1 hK.2.2.2.2.2.1 (by omega)) ?_
      intro _ n w h9 _
      obtain ⟨rfl, rfl, hZ, hF_⟩ := h9
      replace hX := hX.setNow hZ hF_
      replace hF := Fr.tr hF (hF_.mono (by omega) (by omega))
      refine st_aload_n (q := 47) dX6_days_46 rfl rfl rfl ?_
      refine g_getO (q := 50) dX6_days_47 rfl fl_X6_10.g hX.x rfl ?_
      refine g_get (q := 53) dX6_days_50 rfl fl_X6_107.g hX.now rfl ?_
      refine st_iload_n (q := 54) dX6_days_53 rfl rfl rfl ?_
      refine st_isub (q := 55) dX6_days_54 rfl ?_
      refine st_ireturn dX6_days_55 rfl ?_
      exact ev_xr_of (G := fun T => XI X T Ti Tp Sg Sh _) (by rw [daysS, if_pos h1, if_pos c_24, hmc]) hX hF
    · refine st_bipush (q := 29) dX6_days_27 rfl bp_m3 ?_
      refine st_ireturn dX6_days_29 rfl ?_
      exact ev_xr_of (G := fun T => XI X T Ti Tp Sg Sh _) (by rw [daysS, if_pos h1, if_neg c_24]) hX hF
  · refine st_iconst (q := 11) dX6_days_10 rfl ic_m1 ?_
    refine st_ireturn dX6_days_11 rfl ?_
    exact ev_xr_of (G := fun T => XI X T Ti Tp Sg Sh _) (by rw [daysS, if_neg (by rw [zI_0.mp c_7]; decide)]) hX hF
