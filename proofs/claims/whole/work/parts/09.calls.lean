def ev_MO (M : ev_M) : Prop := Cond.code (ev_y M) (ev_cc M) (ev_ml M) (ev_rt M) ∈ ev_tbl ∧ Cond.initialized (ev_y M).cls ∈ ev_tbl ∧ ((ev_y M).cls ≠ "java/lang/invoke/MethodHandle" ∧ (ev_y M).cls ≠ "java/lang/invoke/VarHandle" ∧ (parseMethodDescriptor (ev_y M).desc).map (fun d => d.parameters.length) = some (ev_np M))
def ev_MV (M : ev_M) : Prop := Cond.instanceMethod (ev_y M) ∈ ev_tbl ∧ Cond.selects (ev_y M).cls (ev_y M) (ev_y M) ∈ ev_tbl
def ev_MI (M : ev_M) : Prop := (ev_y M).name = "<init>" ∧ ev_rt M = none ∧ Cond.instanceMethod (ev_y M) ∈ ev_tbl
def ev_ft (M M' : ev_M) : Prop := ev_fr M' + 1 ≤ ev_fr M ∧ 8 + (ev_ml M' + 11) + ev_lo M' ≤ ev_lo M
def ev_rv (k : Nat) (C : String) (n : Nat) (w : ev_W) : Prop := (k < n ∧ ∃ ci fs T N, w k = oO ci fs ∧ vwCl[ci]? = some (C, T, N)) ∨ (1000 ≤ k ∧ (k, C) ∈ ev_ob)
section EVC
variable {E : ev_E} {M M' : ev_M} {pc q : Nat} {L : List (Option Value)} {st : List Value} {n : Nat} {w : ev_W} {cs cs' : Nat × Nat} {Q Q' : Option Value → Nat → ev_W → Prop}
variable {p : Program} {e : Env} {s : State} {m : MethodId} {args : Array Value} {below : List Frame} {meth : Method} {c : Code} {A : Nat → Prop} {ad0 : Nat → Nat} {n0 : Nat} {ad : Nat → Nat} {H : Heap} {locs : List Loc} {ls : Array Slot}
theorem ev_free (F : ev_F E M p s m args meth c A ad0) (Dy : ev_D E A ad0 n0 s ad n w H locs) : ∀ q, va_A (ev_ws E.2.2.1 ad n w) H.size q → A q := by
  intro q h
  rcases h with ⟨k, x, h⟩ | h
  · exact Dy.2.2.2.2.2.1.2 k (q, x) h
  · exact F.2.2.2.2.2.2.2.2.2.1 q (Nat.le_trans Dy.2.2.2.2.2.2.1 h)
theorem ev_blind {as : List Value} {sz : Nat} : FrameBlind (ev_P E ad n w as sz) := fun a U g mk h => ⟨h.1, h.2.1, h.2.2.1, va_K.moved (u := U) (U := U.calling g mk a) (Vm.Alike.refl U.vm) h.2.2.2.1, h.2.2.2.2.1, ev_H.same (s := U) (U := U.calling g mk a) rfl h.2.2.2.2.2.1, h.2.2.2.2.2.2⟩
theorem ev_pre {as : List Value} (F : ev_F E M p s m args meth c A ad0) (Dy : ev_D E A ad0 n0 s ad n w H locs) (hwk : ev_wk n as) : ∀ U : State, U.heap = H → s.WarmedH U.vm → ev_P E ad n w as H.size (as.map (ev_cv ad)).toArray U := by
  intro U hU hW
  refine ⟨rfl, by rw [hU], by rw [hU]; exact Dy.2.2.2.2.1, va_K.moved hW.alike F.2.2.2.2.2.2.2.2.1, Dy.2.2.2.2.2.1.weaken (fun _ _ _ _ => trivial), ?_, Dy.2.1, Dy.2.2.2.1, hwk⟩
  rw [hU]
  exact (((F.2.2.2.2.2.2.2.2.2.2.kept Dy.2.2.2.2.2.2.2.1).narrow (ev_free F Dy)).ad (fun k hk => Dy.2.2.1 k (Or.inr hk))).warm hW
theorem ev_run {st0 : List Value} {a : Array Value} (F : ev_F E M p s m args meth c A ad0) (Dy : ev_D E A ad0 n0 s ad n w H locs) (hl : ev_wl n L) (hk : ev_wk n st) (hr : ev_lr ad L ls (ev_ml M)) (hcs : (cs.1 + ev_mc M', cs.2 + ev_ms M') = cs') (hm1 : cs'.1 ≤ ev_mc M) (hm2 : cs'.2 ≤ ev_ms M)
    (hrun : va_Run p E.1 e (ev_room M) s m args below meth c H locs cs.1 cs.2 (ev_mc M') (ev_ms M') (F0 m pc ls st0) (st.map (ev_cv ad)) (ev_Q E ad n (va_A (ev_ws E.2.2.1 ad n w) H.size) Q' a) (va_A (ev_ws E.2.2.1 ad n w) H.size))
    (kk : ∀ v n' w', Q' v n' w' → n ≤ n' → Ev E M (pc + 3) L (v.toList ++ st) n' w' cs' Q) : W p E.1 e (ev_room M) s m args below meth c H locs cs.1 cs.2 (MQ below (ev_Q E ad0 n0 A Q) args s (ev_mc M) (ev_ms M) A) (F0 m pc ls st0) := by
  subst hcs
  intro T hT X
  obtain ⟨v, st₀, t, T', L', h0, X', hL, e1, e2, ⟨⟨v', n', w', ad', hv, hQ, hwv, hn, hn1, had, hww, hP', hD'⟩, hz, hkp⟩, stp⟩ := hrun T hT X
  have hv' : v = v'.map (ev_cv ad') := by injection hv
  rw [h0] at hz hkp
  have hfree := ev_free F Dy
  have Dy' : ev_D E A ad0 n0 s ad' n' w' T'.heap (locs ++ L') := by
    refine ⟨Nat.le_trans Dy.1 hn, hn1, fun k h => (had k (h.imp (fun z => Nat.lt_of_lt_of_le z Dy.1) id)).trans (Dy.2.2.1 k h), hww, by rw [e1]; exact hP', hD'.weaken (fun k q _ h => hfree q.1 h), ?_, ?_, ?_⟩
    · rw [e1]; exact Nat.le_trans Dy.2.2.2.2.2.2.1 hz
    · intro q g1 g2
      rw [e1, hkp q (Nat.lt_of_lt_of_le g1 Dy.2.2.2.2.2.2.1) (fun z => g2 (hfree q z))]
      exact Dy.2.2.2.2.2.2.2.1 q g1 g2
    · intro q hq
      rcases List.mem_append.mp hq with h | h
      · exact Dy.2.2.2.2.2.2.2.2 q h
      · exact hfree _ (hL q h)
  have hwk' : ev_wk n' (v'.toList ++ st) := by
    intro x hx
    rcases List.mem_append.mp hx with h | h
    · cases v' with
      | none => simp at h
      | some y =>
        simp only [Option.toList_some, List.mem_singleton] at h
        rw [h]; exact hwv y rfl
    · exact ev_wv_mono hn (hk x h)
  obtain ⟨t2, a1, b1⟩ := kk v' n' w' hQ hn p e s m args below meth c A ad0 n0 ad' T'.heap (locs ++ L') ls F Dy' (ev_wl_mono hn hl) hwk' (ev_lr_ag hl hr had) hm1 hm2 T' rfl X'
  have hst : (v'.toList ++ st).map (ev_cv ad') = v.toList ++ st.map (ev_cv ad) := by
    rw [List.map_append, ev_map_ag hk had, hv']
    cases v' <;> rfl
  rw [hst] at a1
  exact ⟨t2, stp t2 a1, b1⟩
theorem ev_sum8 {st : List Value} (h : (st.map fun v => v.category).sum ≤ 8) (ad : Nat → Nat) : ((st.map (ev_cv ad)).map fun v => v.category).sum ≤ 8 := by
  rw [List.map_map, show ((fun v => v.category) ∘ ev_cv ad) = fun v => v.category from funext (ev_cv_cat ad)]
  exact h
theorem ev_callB (F : ev_F E M p s m args meth c A ad0) {idx : Nat} (ho : ev_MO M') (hl : Cond.methodLink (ev_y M).cls idx (ev_y M') ∈ ev_tbl) (hf : ev_ft M M') : CallB (ev_room M) s args (ev_y M).cls idx (ev_y M') (ev_cc M') (ev_ml M') (ev_rt M') (ev_wds M') (ev_room M') (ev_mc M') (ev_ms M') (ev_np M') :=
  callB_of (ev_np M') F.2.2.2.2.2.1 (ev_goodIn ho.1) rfl rfl rfl (F.2.2.2.2.2.1 _ (List.mem_cons_of_mem _ ho.2.1)) (F.2.2.2.2.2.1 _ (List.mem_cons_of_mem _ hl)) ho.2.2 hf
theorem ev_recv (F : ev_F E M p s m args meth c A ad0) (Dy : ev_D E A ad0 n0 s ad n w H locs) {k : Nat} {C : String} (h : ev_rv k C n w) : ∃ cell : Cell, H[ad k]? = some cell ∧ cell.vm.isStatics = false ∧ s.vm.findClass C = some cell.cls := by
  rcases h with ⟨hk, ci, fs, T, N, hw, hc⟩ | ⟨hk, hm⟩
  · have he := ev_ws_get (cA := E.2.2.1) (ad := ad) (w := w) hk
    rw [hw] at he
    exact va_recv F.2.2.2.2.2.2.2.2.1 Dy.2.2.2.2.1 (q := (C, T, N)) hc he
  · obtain ⟨cell, g1, g2, g3, -⟩ := ((F.2.2.2.2.2.2.2.2.2.2.2.2.1 (k, C) hm).kept Dy.2.2.2.2.2.2.2.1)
    exact ⟨cell, by rw [Dy.2.2.1 k (Or.inr hk)]; exact g1, g2, g3⟩
theorem ev_rev (ad : Nat → Nat) (as : List Value) (st : List Value) : (as.reverse ++ st).map (ev_cv ad) = (as.map (ev_cv ad)).reverse ++ st.map (ev_cv ad) := by rw [List.map_append, List.map_reverse]
theorem st_callV {idx k : Nat} {as : List Value} (d : decode (ev_cc M) pc = .ok (.invokevirtual idx, 3)) (hq : pc + 3 = q) (ho : ev_MO M') (hv : ev_MV M') (hl9 : Cond.methodLink (ev_y M).cls idx (ev_y M') ∈ ev_tbl) (hf : ev_ft M M') (hn : as.length = ev_np M') (h8 : (st.map fun v => v.category).sum ≤ 8) (hrv : ev_rv k (ev_y M').cls n w) (hcs : (cs.1 + ev_mc M', cs.2 + ev_ms M') = cs') (hm1 : cs'.1 ≤ ev_mc M) (hm2 : cs'.2 ≤ ev_ms M) (hc : Ct E M' (.ref k :: as) n w Q') (kk : ∀ v n' w', Q' v n' w' → n ≤ n' → Ev E M q L (v.toList ++ st) n' w' cs' Q) : Ev E M pc L (as.reverse ++ .ref k :: st) n w cs Q := by
  subst hq
  intro p e s m args below meth c A ad0 n0 ad H locs ls F Dy hl hk hr h1 h2
  have hwa : ev_wk n (.ref k :: as) := ev_wk_cons (hk _ (List.mem_append_right _ List.mem_cons_self)) (fun x hx => hk x (List.mem_append_left _ (List.mem_reverse.mpr hx)))
  have hws : ev_wk n st := fun x hx => hk x (List.mem_append_right _ (List.mem_cons_of_mem _ hx))
  refine ev_run F Dy hl hws hr hcs hm1 hm2 (va_runV (C := (ev_y M').cls) (b := ad k) (As := as.map (ev_cv ad)) (rest := st.map (ev_cv ad)) ⟨F.1, F.2.1, F.2.2.2.1, F.2.2.2.2.1, F.2.2.2.2.2.1⟩ (hc ad H.size) ⟨ev_callB F ho hl9 hf, F.2.2.2.2.2.1 _ (List.mem_cons_of_mem _ hv.1), F.2.2.2.2.2.1 _ (List.mem_cons_of_mem _ hv.2)⟩ ⟨ev_blind, ev_recv F Dy hrv, ev_pre F Dy hwa⟩ rfl (by rw [List.length_map]; exact hn) hr.1 (by rw [ev_rev]; rfl) (lv_room (ev_sum8 h8 ad)) d (by subst hcs; exact ⟨hm1, hm2⟩)) kk
theorem st_callS {idx : Nat} {as : List Value} (d : decode (ev_cc M) pc = .ok (.invokestatic idx, 3)) (hq : pc + 3 = q) (ho : ev_MO M') (hv : Cond.static (ev_y M') ∈ ev_tbl) (hl9 : Cond.methodLink (ev_y M).cls idx (ev_y M') ∈ ev_tbl) (hf : ev_ft M M') (hn : as.length = ev_np M') (h8 : (st.map fun v => v.category).sum ≤ 8) (hcs : (cs.1 + ev_mc M', cs.2 + ev_ms M') = cs') (hm1 : cs'.1 ≤ ev_mc M) (hm2 : cs'.2 ≤ ev_ms M) (hc : Ct E M' as n w Q') (kk : ∀ v n' w', Q' v n' w' → n ≤ n' → Ev E M q L (v.toList ++ st) n' w' cs' Q) : Ev E M pc L (as.reverse ++ st) n w cs Q := by
  subst hq
  intro p e s m args below meth c A ad0 n0 ad H locs ls F Dy hl hk hr h1 h2
  have hwa : ev_wk n as := fun x hx => hk x (List.mem_append_left _ (List.mem_reverse.mpr hx))
  have hws : ev_wk n st := fun x hx => hk x (List.mem_append_right _ hx)
  refine ev_run F Dy hl hws hr hcs hm1 hm2 (va_runS (As := as.map (ev_cv ad)) (rest := st.map (ev_cv ad)) ⟨F.1, F.2.1, F.2.2.2.1, F.2.2.2.2.1, F.2.2.2.2.2.1⟩ (hc ad H.size) ⟨ev_callB F ho hl9 hf, F.2.2.2.2.2.1 _ (List.mem_cons_of_mem _ hv)⟩ ⟨ev_blind, ev_pre F Dy hwa⟩ rfl (by rw [List.length_map]; exact hn) hr.1 (ev_rev _ _ _) (lv_room (ev_sum8 h8 ad)) d (by subst hcs; exact ⟨hm1, hm2⟩)) kk
theorem st_callI {idx k : Nat} {as : List Value} (d : decode (ev_cc M) pc = .ok (.invokespecial idx, 3)) (hq : pc + 3 = q) (ho : ev_MO M') (hv : ev_MI M') (hl9 : Cond.methodLink (ev_y M).cls idx (ev_y M') ∈ ev_tbl) (hf : ev_ft M M') (hn : as.length = ev_np M') (h8 : (st.map fun v => v.category).sum ≤ 8) (hcs : (cs.1 + ev_mc M', cs.2 + ev_ms M') = cs') (hm1 : cs'.1 ≤ ev_mc M) (hm2 : cs'.2 ≤ ev_ms M) (hc : Ct E M' (.ref k :: as) n w Q') (kk : ∀ v n' w', Q' v n' w' → n ≤ n' → Ev E M q L (v.toList ++ st) n' w' cs' Q) : Ev E M pc L (as.reverse ++ .ref k :: st) n w cs Q := by
  subst hq
  intro p e s m args below meth c A ad0 n0 ad H locs ls F Dy hl hk hr h1 h2
  have hwa : ev_wk n (.ref k :: as) := ev_wk_cons (hk _ (List.mem_append_right _ List.mem_cons_self)) (fun x hx => hk x (List.mem_append_left _ (List.mem_reverse.mpr hx)))
  have hws : ev_wk n st := fun x hx => hk x (List.mem_append_right _ (List.mem_cons_of_mem _ hx))
  have hB := ev_callB F ho hl9 hf
  rw [hv.2.1] at hB
  refine ev_run F Dy hl hws hr hcs hm1 hm2 (va_runI (b := ad k) (As := as.map (ev_cv ad)) (rest := st.map (ev_cv ad)) ⟨F.1, F.2.1, F.2.2.2.1, F.2.2.2.2.1, F.2.2.2.2.2.1⟩ (hc ad H.size) ⟨hB, hv.1, F.2.2.2.2.2.1 _ (List.mem_cons_of_mem _ hv.2.2)⟩ ⟨ev_blind, ev_pre F Dy hwa⟩ rfl (by rw [List.length_map]; exact hn) hr.1 (by rw [ev_rev]; rfl) (lv_room (ev_sum8 h8 ad)) d (by subst hcs; exact ⟨hm1, hm2⟩)) kk
theorem ev_callN (F : ev_F E M p s m args meth c A ad0) {idx : Nat} (ho : ev_MO M') (hl : ((ev_y M).cls, idx, ev_y M') ∈ ev_nw) (hf : ev_ft M M') : va_CN (ev_room M) s args (ev_y M).cls idx (ev_y M') RX6 (ev_cc M') (ev_ml M') (ev_rt M') (ev_wds M') (ev_room M') (ev_mc M') (ev_ms M') (ev_np M') :=
  va_cnB (ev_np M') F.2.2.2.2.2.1 (ev_goodIn ho.1) rfl rfl rfl (F.2.2.2.2.2.2.2.2.2.2.2.2.2.2.2.1 _ hl) (F.2.2.2.2.2.1 _ (List.mem_cons_of_mem _ ho.2.1)) ho.2.2 hf
theorem st_callSN {idx : Nat} {as : List Value} (d : decode (ev_cc M) pc = .ok (.invokestatic idx, 3)) (hq : pc + 3 = q) (ho : ev_MO M') (hv : Cond.static (ev_y M') ∈ ev_tbl) (hl9 : ((ev_y M).cls, idx, ev_y M') ∈ ev_nw) (hf : ev_ft M M') (hn : as.length = ev_np M') (h8 : (st.map fun v => v.category).sum ≤ 8) (hcs : (cs.1 + ev_mc M', cs.2 + ev_ms M') = cs') (hm1 : cs'.1 ≤ ev_mc M) (hm2 : cs'.2 ≤ ev_ms M) (hc : Ct E M' as n w Q') (kk : ∀ v n' w', Q' v n' w' → n ≤ n' → Ev E M q L (v.toList ++ st) n' w' cs' Q) : Ev E M pc L (as.reverse ++ st) n w cs Q := by
  subst hq
  intro p e s m args below meth c A ad0 n0 ad H locs ls F Dy hl hk hr h1 h2
  have hwa : ev_wk n as := fun x hx => hk x (List.mem_append_left _ (List.mem_reverse.mpr hx))
  have hws : ev_wk n st := fun x hx => hk x (List.mem_append_right _ hx)
  refine ev_run F Dy hl hws hr hcs hm1 hm2 (va_runSN (As := as.map (ev_cv ad)) (rest := st.map (ev_cv ad)) ⟨F.1, F.2.1, F.2.2.2.1, F.2.2.2.2.1, F.2.2.2.2.2.1⟩ (hc ad H.size) ⟨ev_callN F ho hl9 hf, F.2.2.2.2.2.1 _ (List.mem_cons_of_mem _ hv), trivial⟩ ⟨ev_blind, ev_pre F Dy hwa⟩ rfl (by rw [List.length_map]; exact hn) hr.1 (ev_rev _ _ _) (lv_room (ev_sum8 h8 ad)) d (by subst hcs; exact ⟨hm1, hm2⟩)) kk
theorem st_callIN {idx k : Nat} {as : List Value} (d : decode (ev_cc M) pc = .ok (.invokespecial idx, 3)) (hq : pc + 3 = q) (ho : ev_MO M') (hv : ev_MI M') (hl9 : ((ev_y M).cls, idx, ev_y M') ∈ ev_nw) (hf : ev_ft M M') (hn : as.length = ev_np M') (h8 : (st.map fun v => v.category).sum ≤ 8) (hcs : (cs.1 + ev_mc M', cs.2 + ev_ms M') = cs') (hm1 : cs'.1 ≤ ev_mc M) (hm2 : cs'.2 ≤ ev_ms M) (hc : Ct E M' (.ref k :: as) n w Q') (kk : ∀ v n' w', Q' v n' w' → n ≤ n' → Ev E M q L (v.toList ++ st) n' w' cs' Q) : Ev E M pc L (as.reverse ++ .ref k :: st) n w cs Q := by
  subst hq
  intro p e s m args below meth c A ad0 n0 ad H locs ls F Dy hl hk hr h1 h2
  have hwa : ev_wk n (.ref k :: as) := ev_wk_cons (hk _ (List.mem_append_right _ List.mem_cons_self)) (fun x hx => hk x (List.mem_append_left _ (List.mem_reverse.mpr hx)))
  have hws : ev_wk n st := fun x hx => hk x (List.mem_append_right _ (List.mem_cons_of_mem _ hx))
  have hB := ev_callN F ho hl9 hf
  rw [hv.2.1] at hB
  refine ev_run F Dy hl hws hr hcs hm1 hm2 (va_runIN (b := ad k) (As := as.map (ev_cv ad)) (rest := st.map (ev_cv ad)) ⟨F.1, F.2.1, F.2.2.2.1, F.2.2.2.2.1, F.2.2.2.2.2.1⟩ (hc ad H.size) ⟨hB, hv.1, F.2.2.2.2.2.1 _ (List.mem_cons_of_mem _ hv.2.2)⟩ ⟨ev_blind, ev_pre F Dy hwa⟩ rfl (by rw [List.length_map]; exact hn) hr.1 (by rw [ev_rev]; rfl) (lv_room (ev_sum8 h8 ad)) d (by subst hcs; exact ⟨hm1, hm2⟩)) kk
end EVC
