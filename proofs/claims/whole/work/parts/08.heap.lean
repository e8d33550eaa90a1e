def ev_CI (ci : Nat) (C : String) (T : u_T) (N : Nat) (ty : Nat → FieldType) : Prop := vwCl[ci]? = some (C, T, N) ∧ (∀ w ∈ u_ws C T N, w ∈ ev_tbl) ∧ (∀ k, k < N → parseFieldDescriptor (T k).2.2.1 = some (ty k)) ∧ ∀ a, a < N → ∀ b, b < N → a ≠ b → (T a).2.1 ≠ (T b).2.1
def ev_FL (own : String) (idx ci k : Nat) : Prop := ∃ C T N ty, ev_CI ci C T N ty ∧ k < N ∧ Cond.fieldLink own idx (T k).1 (T k).2.1 (T k).2.2.1 ∈ ev_tbl
def ev_FP (own : String) (idx ci k : Nat) (t : FieldType) : Prop := ∃ C T N ty, ev_CI ci C T N ty ∧ k < N ∧ Cond.fieldLink own idx (T k).1 (T k).2.1 (T k).2.2.1 ∈ ev_tbl ∧ (T k).2.2.2 = false ∧ ty k = t
def ev_FF (own : String) (idx ci k : Nat) (t : FieldType) : Prop := ∃ C T N ty, ev_CI ci C T N ty ∧ k < N ∧ Cond.fieldLink own idx (T k).1 (T k).2.1 (T k).2.2.1 ∈ ev_tbl ∧ (T k).2.2.2 = true ∧ ty k = t ∧ (T k).1 = own
theorem ev_FP.g {own : String} {idx ci k : Nat} {t : FieldType} (h : ev_FP own idx ci k t) : ev_FL own idx ci k := by
  obtain ⟨C, T, N, ty, h1, h2, h3, -⟩ := h
  exact ⟨C, T, N, ty, h1, h2, h3⟩
theorem ev_FF.g {own : String} {idx ci k : Nat} {t : FieldType} (h : ev_FF own idx ci k t) : ev_FL own idx ci k := by
  obtain ⟨C, T, N, ty, h1, h2, h3, -⟩ := h
  exact ⟨C, T, N, ty, h1, h2, h3⟩
theorem ev_D_up {E : ev_E} {A : Nat → Prop} {ad0 : Nat → Nat} {n0 : Nat} {s : State} {ad : Nat → Nat} {n : Nat} {w : ev_W} {H H1 : Heap} {locs locs1 : List Loc} {k : Nat} {x : ev_C} {y : va_E} (Dy : ev_D E A ad0 n0 s ad n w H locs) (hk : k < n) (hx : ev_wc n x) (e : ev_ce E.2.2.1 ad x = y) (hP : va_P E.2.1 vwCl ((ev_ws E.2.2.1 ad n w).set k (ad k, y)) H1) (hD : va_D A ((ev_ws E.2.2.1 ad n w).set k (ad k, y))) (hS : va_S A s.heap H1 locs1) : ev_D E A ad0 n0 s ad n (ev_up w k x) H1 locs1 := by
  subst e
  rw [ev_ws_set hk] at hP hD
  refine ⟨Dy.1, Dy.2.1, Dy.2.2.1, fun j hj => ?_, hP, hD, hS⟩
  by_cases h : j = k
  · subst h; rw [ev_up_s]; exact hx
  · rw [ev_up_n h]; exact Dy.2.2.2.1 j hj
theorem ev_D_new {E : ev_E} {A : Nat → Prop} {ad0 : Nat → Nat} {n0 : Nat} {s : State} {ad : Nat → Nat} {n : Nat} {w : ev_W} {H H1 : Heap} {locs locs1 : List Loc} {a : Nat} {x : ev_C} {y : va_E} (Dy : ev_D E A ad0 n0 s ad n w H locs) (hn : n < 1000) (hx : ev_wc (n + 1) x) (e : ev_ce E.2.2.1 (fun j => if j = n then a else ad j) x = y) (hP : va_P E.2.1 vwCl (ev_ws E.2.2.1 ad n w ++ [(a, y)]) H1) (hD : va_D A (ev_ws E.2.2.1 ad n w ++ [(a, y)])) (hS : va_S A s.heap H1 locs1) : ev_D E A ad0 n0 s (fun j => if j = n then a else ad j) (n + 1) (ev_up w n x) H1 locs1 := by
  rw [ev_ws_push hn Dy.2.2.2.1 e] at hP hD
  refine ⟨Nat.le_succ_of_le Dy.1, hn, fun k hk => ?_, fun j hj => ?_, hP, hD, hS⟩
  · have hne : k ≠ n := by have := Dy.1; omega
    show (if k = n then a else ad k) = ad0 k
    rw [if_neg hne]
    exact Dy.2.2.1 k hk
  · by_cases h : j = n
    · subst h; rw [ev_up_s]; exact hx
    · rw [ev_up_n h]; exact ev_wc_mono (Nat.le_succ n) (Dy.2.2.2.1 j (by omega))
theorem ev_new_ag {n : Nat} {ad : Nat → Nat} {a : Nat} (hn : n < 1000) : ∀ k, k < n ∨ 1000 ≤ k → (fun j => if j = n then a else ad j) k = ad k := fun k hk => if_neg (by omega)
theorem ev_nth_mem {fs : List Value} {j : Nat} {v : Value} (h : ev_nth fs j = some v) : v ∈ fs := List.mem_of_getElem? (by rw [← ev_nth_eq]; exact h)
theorem ev_nth_lt {fs : List Value} {j : Nat} {v : Value} (h : ev_nth fs j = some v) : j < fs.length := (List.getElem?_eq_some_iff.mp (by rw [← ev_nth_eq]; exact h)).1
theorem ev_wc_rep {n ci : Nat} {fs : List Value} {j : Nat} {v : Value} (h : ev_wc n (oO ci fs)) (hv : ev_wv n v) : ev_wc n (oO ci (ev_rep fs j v)) := by
  intro u hu
  rw [ev_rep_eq] at hu
  rcases List.mem_or_eq_of_mem_set hu with z | z
  · exact h u z
  · rw [z]; exact hv
theorem ev_ce_rep {cA : Nat → ClassId} {ad : Nat → Nat} {ci : Nat} {fs : List Value} {j : Nat} {v : Value} : ev_ce cA ad (oO ci (ev_rep fs j v)) = .inr (ci, (fs.map (ev_cv ad)).set j (ev_cv ad v)) := by
  show Sum.inr (ci, (ev_rep fs j v).map (ev_cv ad)) = _
  rw [ev_rep_eq, List.map_set]
def ev_ix (i : Int32) (len j : Nat) : Prop := vp_in i len ∧ i.toNatClampNeg = j
theorem ev_ix_nI {j len : Nat} (h : j < len) (hl : len < 2 ^ 31) : ev_ix (nI j) len j := ⟨vp_in_nI h hl, nI_clamp (Nat.lt_trans h hl)⟩
section EVH
variable {E : ev_E} {M : ev_M} {pc q : Nat} {L : List (Option Value)} {st : List Value} {n : Nat} {w : ev_W} {cs : Nat × Nat} {Q : Option Value → Nat → ev_W → Prop}
theorem st_getfield {idx ci j k : Nat} {fs : List Value} {v : Value} (d : decode (ev_cc M) pc = .ok (.getfield idx, 3)) (hq : pc + 3 = q) (fl : ev_FL (ev_y M).cls idx ci j) (hk9 : k < n) (hw : w k = oO ci fs) (hv : ev_nth fs j = some v) (kk : Ev E M q L (v :: st) n w cs Q) : Ev E M pc L (.ref k :: st) n w cs Q := by
  subst hq
  intro p e s m args below meth c A ad0 n0 ad H locs ls F Dy hl hk hr h1 h2
  obtain ⟨C, T, N, ty, ⟨c1, c2, c3, c4⟩, hj, hlk⟩ := fl
  have he := ev_ws_get (cA := E.2.2.1) (ad := ad) (w := w) hk9
  have hwf := Dy.2.2.2.1 k hk9
  rw [hw] at he hwf
  exact va_get (D := E.2.1) (ci := ci) (v := ev_cv ad v) (C := C) (T := T) (N := N) F.1 F.2.1 F.2.2.2.2.2.1 (fun w h => List.mem_cons_of_mem _ (c2 w h)) F.2.2.2.2.1 F.2.2.2.2.2.2.2.2.1 Dy.2.2.2.2.1 k he c1 j hj (F.2.2.2.2.2.1 _ (List.mem_cons_of_mem _ hlk)) (fun _ h9 => h9) (by rw [List.getElem?_map, ← ev_nth_eq, hv]; rfl) d (kk p e s m args below meth c A ad0 n0 ad H locs ls F Dy hl (ev_wk_cons (hwf v (ev_nth_mem hv)) (ev_wk_tl hk)) hr h1 h2)
theorem st_putfield {idx ci j k : Nat} {fs fs' : List Value} {x : Int32} {u : Value} {t : FieldType} (d : decode (ev_cc M) pc = .ok (.putfield idx, 3)) (hq : pc + 3 = q) (fl : ev_FP (ev_y M).cls idx ci j t) (hk9 : k < n) (hw : w k = oO ci fs) (hu : ev_nth fs j = some u) (hnar : narrow t (.int x) = .int x) (hfit : fits t (.int x) = true) (hfs : ev_rep fs j (.int x) = fs') (kk : Ev E M q L st n (ev_up w k (oO ci fs')) cs Q) : Ev E M pc L (.int x :: .ref k :: st) n w cs Q := by
  subst hq; subst hfs
  intro p e s m args below meth c A ad0 n0 ad H locs ls F Dy hl hk hr h1 h2
  obtain ⟨C, T, N, ty, ⟨c1, c2, c3, c4⟩, hj, hlk, hfin, ht⟩ := fl
  have he := ev_ws_get (cA := E.2.2.1) (ad := ad) (w := w) hk9
  have hwf := Dy.2.2.2.1 k hk9
  rw [hw] at he hwf
  refine va_put (D := E.2.1) (ci := ci) (v := .int x) (ty := t) (C := C) (T := T) (N := N) F.1 F.2.1 F.2.2.2.2.2.1 (fun w h => List.mem_cons_of_mem _ (c2 w h)) ty c3 c4 F.2.2.2.2.1 F.2.2.2.2.2.2.2.2.1 Dy.2.2.2.2.1 Dy.2.2.2.2.2.1 Dy.2.2.2.2.2.2 k he c1 j hj (F.2.2.2.2.2.1 _ (List.mem_cons_of_mem _ hlk)) (fun _ h9 => h9) hfin (by rw [c3 j hj, ht]) hnar hfit (by rw [List.length_map]; exact ev_nth_lt hu) d (fun H1 locs1 hP hD hS => ?_)
  exact kk p e s m args below meth c A ad0 n0 ad H1 locs1 ls F (ev_D_up Dy hk9 (ev_wc_rep hwf trivial) ev_ce_rep hP hD hS) hl (ev_wk_tl (ev_wk_tl hk)) hr h1 h2
theorem st_putF {idx ci j k r : Nat} {fs fs' : List Value} {u : Value} {t : FieldType} (d : decode (ev_cc M) pc = .ok (.putfield idx, 3)) (hq : pc + 3 = q) (fl : ev_FF (ev_y M).cls idx ci j t) (hin : (ev_y M).name = "<init>") (hk9 : k < n) (hw : w k = oO ci fs) (hu : ev_nth fs j = some u) (hnar : ∀ a, narrow t (.ref a) = .ref a) (hfit : ∀ a, fits t (.ref a) = true) (hfs : ev_rep fs j (.ref r) = fs') (kk : Ev E M q L st n (ev_up w k (oO ci fs')) cs Q) : Ev E M pc L (.ref r :: .ref k :: st) n w cs Q := by
  subst hq; subst hfs
  intro p e s m args below meth c A ad0 n0 ad H locs ls F Dy hl hk hr h1 h2
  obtain ⟨C, T, N, ty, ⟨c1, c2, c3, c4⟩, hj, hlk, hfin, ht, hown⟩ := fl
  have he := ev_ws_get (cA := E.2.2.1) (ad := ad) (w := w) hk9
  have hwf := Dy.2.2.2.1 k hk9
  rw [hw] at he hwf
  refine va_putF (D := E.2.1) (ci := ci) (v := .ref (ad r)) (ty := t) (C := C) (T := T) (N := N) F.1 F.2.1 F.2.2.2.2.2.1 (fun w h => List.mem_cons_of_mem _ (c2 w h)) ty c3 c4 F.2.2.2.2.1 F.2.2.2.2.2.2.2.2.1 Dy.2.2.2.2.1 Dy.2.2.2.2.2.1 Dy.2.2.2.2.2.2 k he c1 j hj (F.2.2.2.2.2.1 _ (List.mem_cons_of_mem _ hlk)) (fun _ h9 => h9) hfin (F.2.2.2.2.2.2.2.1.trans hin) hown (by rw [c3 j hj, ht]) (hnar _) (hfit _) (by rw [List.length_map]; exact ev_nth_lt hu) d (fun H1 locs1 hP hD hS => ?_)
  exact kk p e s m args below meth c A ad0 n0 ad H1 locs1 ls F (ev_D_up Dy hk9 (ev_wc_rep hwf (ev_wk_hd hk)) ev_ce_rep hP hD hS) hl (ev_wk_tl (ev_wk_tl hk)) hr h1 h2
theorem st_iaload {k len j : Nat} {f : Nat → Int32} {i : Int32} (d : decode (ev_cc M) pc = .ok (.iaload, 1)) (hq : pc + 1 = q) (hk9 : k < n) (hw : w k = aI len f) (hi : ev_ix i len j) (kk : Ev E M q L (.int (f j) :: st) n w cs Q) : Ev E M pc L (.int i :: .ref k :: st) n w cs Q := by
  subst hq
  intro p e s m args below meth c A ad0 n0 ad H locs ls F Dy hl hk hr h1 h2
  have he := ev_ws_get (cA := E.2.2.1) (ad := ad) (w := w) hk9
  rw [hw] at he
  obtain ⟨hi, rfl⟩ := hi
  exact va_iald F.1 F.2.1 F.2.2.2.2.2.2.2.2.1 Dy.2.2.2.2.1 k 0 he rfl hi d (kk p e s m args below meth c A ad0 n0 ad H locs ls F Dy hl (ev_wk_cons trivial (ev_wk_tl (ev_wk_tl hk))) hr h1 h2)
theorem st_baload {k len j : Nat} {f : Nat → Int32} {i : Int32} (d : decode (ev_cc M) pc = .ok (.baload, 1)) (hq : pc + 1 = q) (hk9 : k < n) (hw : w k = aB len f) (hi : ev_ix i len j) (kk : Ev E M q L (.int (f j) :: st) n w cs Q) : Ev E M pc L (.int i :: .ref k :: st) n w cs Q := by
  subst hq
  intro p e s m args below meth c A ad0 n0 ad H locs ls F Dy hl hk hr h1 h2
  have he := ev_ws_get (cA := E.2.2.1) (ad := ad) (w := w) hk9
  rw [hw] at he
  obtain ⟨hi, rfl⟩ := hi
  exact va_bald F.1 F.2.1 F.2.2.2.2.2.2.2.2.1 Dy.2.2.2.2.1 k 1 he rfl hi d (kk p e s m args below meth c A ad0 n0 ad H locs ls F Dy hl (ev_wk_cons trivial (ev_wk_tl (ev_wk_tl hk))) hr h1 h2)
theorem st_zaload {k len j : Nat} {f : Nat → Int32} {i : Int32} (d : decode (ev_cc M) pc = .ok (.baload, 1)) (hq : pc + 1 = q) (hk9 : k < n) (hw : w k = aZ len f) (hi : ev_ix i len j) (kk : Ev E M q L (.int (f j) :: st) n w cs Q) : Ev E M pc L (.int i :: .ref k :: st) n w cs Q := by
  subst hq
  intro p e s m args below meth c A ad0 n0 ad H locs ls F Dy hl hk hr h1 h2
  have he := ev_ws_get (cA := E.2.2.1) (ad := ad) (w := w) hk9
  rw [hw] at he
  obtain ⟨hi, rfl⟩ := hi
  exact va_zald F.1 F.2.1 F.2.2.2.2.2.2.2.2.1 Dy.2.2.2.2.1 k 2 he rfl hi d (kk p e s m args below meth c A ad0 n0 ad H locs ls F Dy hl (ev_wk_cons trivial (ev_wk_tl (ev_wk_tl hk))) hr h1 h2)
theorem st_iastore {k len j : Nat} {f : Nat → Int32} {i x : Int32} (d : decode (ev_cc M) pc = .ok (.iastore, 1)) (hq : pc + 1 = q) (hk9 : k < n) (hw : w k = aI len f) (hi : ev_ix i len j) (kk : Ev E M q L st n (ev_up w k (aI len (upd f j x))) cs Q) : Ev E M pc L (.int x :: .int i :: .ref k :: st) n w cs Q := by
  subst hq
  intro p e s m args below meth c A ad0 n0 ad H locs ls F Dy hl hk hr h1 h2
  have he := ev_ws_get (cA := E.2.2.1) (ad := ad) (w := w) hk9
  rw [hw] at he
  obtain ⟨hi, rfl⟩ := hi
  exact va_iast F.1 F.2.1 F.2.2.2.2.2.2.2.2.1 Dy.2.2.2.2.1 Dy.2.2.2.2.2.1 Dy.2.2.2.2.2.2 k 0 he rfl hi d (fun H1 locs1 hP hD hS => kk p e s m args below meth c A ad0 n0 ad H1 locs1 ls F (ev_D_up Dy hk9 trivial rfl hP hD hS) hl (ev_wk_tl (ev_wk_tl (ev_wk_tl hk))) hr h1 h2)
theorem st_bastore {k len j : Nat} {f : Nat → Int32} {i x : Int32} (d : decode (ev_cc M) pc = .ok (.bastore, 1)) (hq : pc + 1 = q) (hk9 : k < n) (hw : w k = aB len f) (hi : ev_ix i len j) (kk : Ev E M q L st n (ev_up w k (aB len (upd f j (vp_nar .byte x)))) cs Q) : Ev E M pc L (.int x :: .int i :: .ref k :: st) n w cs Q := by
  subst hq
  intro p e s m args below meth c A ad0 n0 ad H locs ls F Dy hl hk hr h1 h2
  have he := ev_ws_get (cA := E.2.2.1) (ad := ad) (w := w) hk9
  rw [hw] at he
  obtain ⟨hi, rfl⟩ := hi
  exact va_bast F.1 F.2.1 F.2.2.2.2.2.2.2.2.1 Dy.2.2.2.2.1 Dy.2.2.2.2.2.1 Dy.2.2.2.2.2.2 k 1 he rfl hi d (fun H1 locs1 hP hD hS => kk p e s m args below meth c A ad0 n0 ad H1 locs1 ls F (ev_D_up Dy hk9 trivial rfl hP hD hS) hl (ev_wk_tl (ev_wk_tl (ev_wk_tl hk))) hr h1 h2)
theorem st_zastore {k len j : Nat} {f : Nat → Int32} {i x : Int32} (d : decode (ev_cc M) pc = .ok (.bastore, 1)) (hq : pc + 1 = q) (hk9 : k < n) (hw : w k = aZ len f) (hi : ev_ix i len j) (kk : Ev E M q L st n (ev_up w k (aZ len (upd f j (vp_nar .boolean x)))) cs Q) : Ev E M pc L (.int x :: .int i :: .ref k :: st) n w cs Q := by
  subst hq
  intro p e s m args below meth c A ad0 n0 ad H locs ls F Dy hl hk hr h1 h2
  have he := ev_ws_get (cA := E.2.2.1) (ad := ad) (w := w) hk9
  rw [hw] at he
  obtain ⟨hi, rfl⟩ := hi
  exact va_zast F.1 F.2.1 F.2.2.2.2.2.2.2.2.1 Dy.2.2.2.2.1 Dy.2.2.2.2.2.1 Dy.2.2.2.2.2.2 k 2 he rfl hi d (fun H1 locs1 hP hD hS => kk p e s m args below meth c A ad0 n0 ad H1 locs1 ls F (ev_D_up Dy hk9 trivial rfl hP hD hS) hl (ev_wk_tl (ev_wk_tl (ev_wk_tl hk))) hr h1 h2)
theorem st_alen {k t len : Nat} {f : Nat → Int32} {ty : FieldType} {v : Int32} (d : decode (ev_cc M) pc = .ok (.arraylength, 1)) (hq : pc + 1 = q) (hk9 : k < n) (hw : w k = .inl (t, len, f)) (ht : (ev_tys E.2.2.1)[t]? = some (E.2.2.1 t, ty)) (hv : Int32.ofNat len = v) (kk : Ev E M q L (.int v :: st) n w cs Q) : Ev E M pc L (.ref k :: st) n w cs Q := by
  subst hq
  intro p e s m args below meth c A ad0 n0 ad H locs ls F Dy hl hk hr h1 h2
  have he := ev_ws_get (cA := E.2.2.1) (ad := ad) (w := w) hk9
  rw [hw] at he
  exact va_alen F.1 F.2.1 F.2.2.2.2.2.2.2.2.1 Dy.2.2.2.2.1 k t he ht hv d (kk p e s m args below meth c A ad0 n0 ad H locs ls F Dy hl (ev_wk_cons trivial (ev_wk_tl hk)) hr h1 h2)
theorem st_aaload {k t len j r : Nat} {C : String} {g : Nat → Option Nat} {i : Int32} (d : decode (ev_cc M) pc = .ok (.aaload, 1)) (hq : pc + 1 = q) (hk9 : k < n) (hw : w k = aQ t len g) (ht : (ev_tys E.2.2.1)[t]? = some (E.2.2.1 t, .object C)) (hi : ev_ix i len j) (hg : g j = some r) (kk : Ev E M q L (.ref r :: st) n w cs Q) : Ev E M pc L (.int i :: .ref k :: st) n w cs Q := by
  subst hq
  intro p e s m args below meth c A ad0 n0 ad H locs ls F Dy hl hk hr h1 h2
  have he := ev_ws_get (cA := E.2.2.1) (ad := ad) (w := w) hk9
  have hwf := Dy.2.2.2.1 k hk9
  rw [hw] at he hwf
  obtain ⟨hi, rfl⟩ := hi
  refine va_aldq F.1 F.2.1 F.2.2.2.2.2.2.2.2.1 Dy.2.2.2.2.1 k t he ht hi d ?_
  rw [hg]
  exact kk p e s m args below meth c A ad0 n0 ad H locs ls F Dy hl (ev_wk_cons (hwf _ r hg) (ev_wk_tl (ev_wk_tl hk))) hr h1 h2
theorem st_aastore {k t len j r ci : Nat} {C : String} {T : u_T} {N : Nat} {vs : List Value} {g : Nat → Option Nat} {i : Int32} (d : decode (ev_cc M) pc = .ok (.aastore, 1)) (hq : pc + 1 = q) (hk9 : k < n) (hw : w k = aQ t len g) (ht : (ev_tys E.2.2.1)[t]? = some (E.2.2.1 t, .object C)) (hr9 : r < n) (hw2 : w r = oO ci vs) (hc : vwCl[ci]? = some (C, T, N)) (hi : ev_ix i len j) (kk : Ev E M q L st n (ev_up w k (aQ t len (va_up g j (some r)))) cs Q) : Ev E M pc L (.ref r :: .int i :: .ref k :: st) n w cs Q := by
  subst hq
  intro p e s m args below meth c A ad0 n0 ad H locs ls F Dy hl hk hr h1 h2
  have he := ev_ws_get (cA := E.2.2.1) (ad := ad) (w := w) hk9
  have he2 := ev_ws_get (cA := E.2.2.1) (ad := ad) (w := w) hr9
  have hwf := Dy.2.2.2.1 k hk9
  rw [hw] at he hwf
  rw [hw2] at he2
  obtain ⟨hi, rfl⟩ := hi
  refine va_astq F.1 F.2.1 F.2.2.2.2.2.2.2.2.1 Dy.2.2.2.2.1 Dy.2.2.2.2.2.1 Dy.2.2.2.2.2.2 k t r ci (r := (C, T, N)) he ht he2 hc hi d (fun H1 locs1 hP hD hS => kk p e s m args below meth c A ad0 n0 ad H1 locs1 ls F (ev_D_up Dy hk9 ?_ ?_ hP hD hS) hl (ev_wk_tl (ev_wk_tl (ev_wk_tl hk))) hr h1 h2)
  · intro a b hab
    unfold va_up at hab
    by_cases z : a = i.toNatClampNeg
    · rw [if_pos z] at hab; cases hab; exact Or.inl hr9
    · rw [if_neg z] at hab; exact hwf a b hab
  · show Sum.inl (E.2.2.1 t, len, Sum.inr (Sum.inr (Sum.inr (Sum.inr (fun a => (va_up g i.toNatClampNeg (some r) a).map ad))))) = _
    have e9 : (fun a => (va_up g i.toNatClampNeg (some r) a).map ad) = va_up (fun a => (g a).map ad) i.toNatClampNeg (some (ad r)) := by
      funext a
      unfold va_up
      by_cases z : a = i.toNatClampNeg
      · rw [if_pos z, if_pos z]; rfl
      · rw [if_neg z, if_neg z]
    rw [e9]
theorem st_new {idx ci N : Nat} {C : String} {T : u_T} {ty : Nat → FieldType} {fs : List Value} {cs' : Nat × Nat} (d : decode (ev_cc M) pc = .ok (.new idx, 3)) (hq : pc + 3 = q) (hC : ev_CI ci C T N ty) (hcl : Cond.classLink (ev_y M).cls idx C ∈ ev_tbl) (hinst : Cond.instantiable C N ∈ ev_tbl) (hini : Cond.initialized C ∈ ev_tbl) (hfs : ∀ j, j < N → defaultValue (ty j) = vp_V fs j) (hrf : ∀ v ∈ fs, ev_ext v = true ∧ ∀ ad, ev_cv ad v = v) (hn : n < 1000) (hcs : (cs.1 + 1, cs.2 + N) = cs') (hm1 : cs'.1 ≤ ev_mc M) (hm2 : cs'.2 ≤ ev_ms M) (kk : Ev E M q L (.ref n :: st) (n + 1) (ev_up w n (oO ci fs)) cs' Q) : Ev E M pc L st n w cs Q := by
  subst hq; subst hcs
  intro p e s m args below meth c A ad0 n0 ad H locs ls F Dy hl hk hr h1 h2
  obtain ⟨c1, c2, c3, c4⟩ := hC
  refine va_new (D := E.2.1) (ci := ci) (fs := fs) (C := C) (T := T) (N := N) F.1 F.2.1 F.2.2.2.2.2.1 (fun w h => List.mem_cons_of_mem _ (c2 w h)) ty c3 F.2.2.2.2.1 (F.2.2.2.2.2.1 _ (List.mem_cons_of_mem _ hcl)) (F.2.2.2.2.2.1 _ (List.mem_cons_of_mem _ hinst)) (F.2.2.2.2.2.1 _ (List.mem_cons_of_mem _ hini)) F.2.2.2.2.2.2.2.2.1 Dy.2.2.2.2.1 Dy.2.2.2.2.2.1 Dy.2.2.2.2.2.2 F.2.2.2.2.2.2.2.2.2.1 c1 hfs hm1 hm2 d (fun a H1 hP hD hS => ?_)
  have hfm : ∀ (ad : Nat → Nat), fs.map (ev_cv ad) = fs := fun ad => by
    rw [List.map_congr_left (fun v hv => (hrf v hv).2 ad)]
    exact List.map_id _
  have hww : ev_wc (n + 1) (oO ci fs) := fun v hv => by
    have := (hrf v hv).1
    cases v with
    | ref k => exact Or.inr (Nat.le_of_ble_eq_true this)
    | _ => trivial
  have Dy' := ev_D_new (a := a) (x := oO ci fs) (y := .inr (ci, fs)) Dy hn hww (by show Sum.inr (ci, fs.map (ev_cv _)) = _; rw [hfm]) hP hD hS
  have hag := ev_new_ag (n := n) (ad := ad) (a := a) hn
  have K := kk p e s m args below meth c A ad0 n0 _ H1 locs ls F Dy' (ev_wl_mono (Nat.le_succ n) hl) (ev_wk_cons (Or.inl (Nat.lt_succ_self n)) (ev_wk_mono (Nat.le_succ n) hk)) (ev_lr_ag hl hr hag) hm1 hm2
  rw [List.map_cons, ev_map_ag hk hag] at K
  have e9 : ev_cv (fun j => if j = n then a else ad j) (.ref n) = .ref a := by show Value.ref (if n = n then a else ad n) = _; rw [if_pos rfl]
  rw [e9] at K
  exact K
end EVH
