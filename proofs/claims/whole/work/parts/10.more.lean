section EVR
variable {E : ev_E} {M M' : ev_M} {pc q : Nat} {L : List (Option Value)} {st : List Value} {n : Nat} {w : ev_W} {cs cs' : Nat × Nat} {Q Q' : Option Value → Nat → ev_W → Prop}
theorem st_newI {x : Int32} {N : Nat} (d : decode (ev_cc M) pc = .ok (.newarray .int, 2)) (hq : pc + 2 = q) (har : Cond.arrayClass .int ∈ ev_tbl) (hx : ¬ x < 0) (hN : x.toNatClampNeg = N) (hb9 : N * 4 ≤ 536870912) (hn : n < 1000) (hcs : (cs.1 + 1, cs.2 + N) = cs') (hm1 : cs'.1 ≤ ev_mc M) (hm2 : cs'.2 ≤ ev_ms M) (kk : Ev E M q L (.ref n :: st) (n + 1) (ev_up w n (aI N (fun _ => 0))) cs' Q) : Ev E M pc L (.int x :: st) n w cs Q := by
  subst hq; subst hcs
  intro p e s m args below meth c A ad0 n0 ad H locs ls F Dy hl hk hr h1 h2
  refine va_newa (D := E.2.1) (atype := .int) (ty := .int) (a0 := (N, .inl (fun _ => 0))) F.1 F.2.1 (F.2.2.2.2.2.1 _ (List.mem_cons_of_mem _ har)) rfl F.2.2.2.2.2.2.2.2.1 Dy.2.2.2.2.1 Dy.2.2.2.2.2.1 Dy.2.2.2.2.2.2 F.2.2.2.2.2.2.2.2.2.1 (fun _ => rfl) hx hN hb9 hm1 hm2 d (fun a cA H1 hK1 hP hD hS => ?_)
  have e1 : s.vm.findClass ("[" ++ FieldType.int.toString) = some cA := (hK1.2 5 (cA, .int) rfl).2
  have e2 : s.vm.findClass ("[" ++ FieldType.int.toString) = some (E.2.2.1 0) := (F.2.2.2.2.2.2.2.2.1.2 0 (E.2.2.1 0, .int) rfl).2
  have e3 : cA = E.2.2.1 0 := Option.some.inj (e1.symm.trans e2)
  subst e3
  have Dy' := ev_D_new (a := a) (x := aI N (fun _ => 0)) Dy hn trivial rfl hP hD hS
  have hag := ev_new_ag (n := n) (ad := ad) (a := a) hn
  have hk' := ev_wk_tl hk
  have K := kk p e s m args below meth c A ad0 n0 _ H1 locs ls F Dy' (ev_wl_mono (Nat.le_succ n) hl) (ev_wk_cons (Or.inl (Nat.lt_succ_self n)) (ev_wk_mono (Nat.le_succ n) hk')) (ev_lr_ag hl hr hag) hm1 hm2
  rw [List.map_cons, ev_map_ag hk' hag] at K
  have e9 : ev_cv (fun j => if j = n then a else ad j) (.ref n) = .ref a := by show Value.ref (if n = n then a else ad n) = _; rw [if_pos rfl]
  rw [e9] at K
  exact K
theorem st_newB {x : Int32} {N : Nat} (d : decode (ev_cc M) pc = .ok (.newarray .byte, 2)) (hq : pc + 2 = q) (har : Cond.arrayClass .byte ∈ ev_tbl) (hx : ¬ x < 0) (hN : x.toNatClampNeg = N) (hb9 : N * 1 ≤ 536870912) (hn : n < 1000) (hcs : (cs.1 + 1, cs.2 + N) = cs') (hm1 : cs'.1 ≤ ev_mc M) (hm2 : cs'.2 ≤ ev_ms M) (kk : Ev E M q L (.ref n :: st) (n + 1) (ev_up w n (aB N (fun _ => 0))) cs' Q) : Ev E M pc L (.int x :: st) n w cs Q := by
  subst hq; subst hcs
  intro p e s m args below meth c A ad0 n0 ad H locs ls F Dy hl hk hr h1 h2
  refine va_newa (D := E.2.1) (atype := .byte) (ty := .byte) (a0 := (N, .inl (fun _ => 0))) F.1 F.2.1 (F.2.2.2.2.2.1 _ (List.mem_cons_of_mem _ har)) rfl F.2.2.2.2.2.2.2.2.1 Dy.2.2.2.2.1 Dy.2.2.2.2.2.1 Dy.2.2.2.2.2.2 F.2.2.2.2.2.2.2.2.2.1 (fun _ => rfl) hx hN hb9 hm1 hm2 d (fun a cA H1 hK1 hP hD hS => ?_)
  have e1 : s.vm.findClass ("[" ++ FieldType.byte.toString) = some cA := (hK1.2 5 (cA, .byte) rfl).2
  have e2 : s.vm.findClass ("[" ++ FieldType.byte.toString) = some (E.2.2.1 1) := (F.2.2.2.2.2.2.2.2.1.2 1 (E.2.2.1 1, .byte) rfl).2
  have e3 : cA = E.2.2.1 1 := Option.some.inj (e1.symm.trans e2)
  subst e3
  have Dy' := ev_D_new (a := a) (x := aB N (fun _ => 0)) Dy hn trivial rfl hP hD hS
  have hag := ev_new_ag (n := n) (ad := ad) (a := a) hn
  have hk' := ev_wk_tl hk
  have K := kk p e s m args below meth c A ad0 n0 _ H1 locs ls F Dy' (ev_wl_mono (Nat.le_succ n) hl) (ev_wk_cons (Or.inl (Nat.lt_succ_self n)) (ev_wk_mono (Nat.le_succ n) hk')) (ev_lr_ag hl hr hag) hm1 hm2
  rw [List.map_cons, ev_map_ag hk' hag] at K
  have e9 : ev_cv (fun j => if j = n then a else ad j) (.ref n) = .ref a := by show Value.ref (if n = n then a else ad n) = _; rw [if_pos rfl]
  rw [e9] at K
  exact K
theorem st_newZ {x : Int32} {N : Nat} (d : decode (ev_cc M) pc = .ok (.newarray .boolean, 2)) (hq : pc + 2 = q) (har : Cond.arrayClass .boolean ∈ ev_tbl) (hx : ¬ x < 0) (hN : x.toNatClampNeg = N) (hb9 : N * 1 ≤ 536870912) (hn : n < 1000) (hcs : (cs.1 + 1, cs.2 + N) = cs') (hm1 : cs'.1 ≤ ev_mc M) (hm2 : cs'.2 ≤ ev_ms M) (kk : Ev E M q L (.ref n :: st) (n + 1) (ev_up w n (aZ N (fun _ => 0))) cs' Q) : Ev E M pc L (.int x :: st) n w cs Q := by
  subst hq; subst hcs
  intro p e s m args below meth c A ad0 n0 ad H locs ls F Dy hl hk hr h1 h2
  refine va_newa (D := E.2.1) (atype := .boolean) (ty := .boolean) (a0 := (N, .inl (fun _ => 0))) F.1 F.2.1 (F.2.2.2.2.2.1 _ (List.mem_cons_of_mem _ har)) rfl F.2.2.2.2.2.2.2.2.1 Dy.2.2.2.2.1 Dy.2.2.2.2.2.1 Dy.2.2.2.2.2.2 F.2.2.2.2.2.2.2.2.2.1 (fun _ => rfl) hx hN hb9 hm1 hm2 d (fun a cA H1 hK1 hP hD hS => ?_)
  have e1 : s.vm.findClass ("[" ++ FieldType.boolean.toString) = some cA := (hK1.2 5 (cA, .boolean) rfl).2
  have e2 : s.vm.findClass ("[" ++ FieldType.boolean.toString) = some (E.2.2.1 2) := (F.2.2.2.2.2.2.2.2.1.2 2 (E.2.2.1 2, .boolean) rfl).2
  have e3 : cA = E.2.2.1 2 := Option.some.inj (e1.symm.trans e2)
  subst e3
  have Dy' := ev_D_new (a := a) (x := aZ N (fun _ => 0)) Dy hn trivial rfl hP hD hS
  have hag := ev_new_ag (n := n) (ad := ad) (a := a) hn
  have hk' := ev_wk_tl hk
  have K := kk p e s m args below meth c A ad0 n0 _ H1 locs ls F Dy' (ev_wl_mono (Nat.le_succ n) hl) (ev_wk_cons (Or.inl (Nat.lt_succ_self n)) (ev_wk_mono (Nat.le_succ n) hk')) (ev_lr_ag hl hr hag) hm1 hm2
  rw [List.map_cons, ev_map_ag hk' hag] at K
  have e9 : ev_cv (fun j => if j = n then a else ad j) (.ref n) = .ref a := by show Value.ref (if n = n then a else ad n) = _; rw [if_pos rfl]
  rw [e9] at K
  exact K
theorem st_newQ {x : Int32} {N idx t : Nat} {C : String} (d : decode (ev_cc M) pc = .ok (.anewarray idx, 3)) (hq : pc + 3 = q) (hcl : Cond.classLink (ev_y M).cls idx C ∈ ev_tbl) (hao : C = RX5 ∨ C = RX2) (ht : (ev_tys E.2.2.1)[t]? = some (E.2.2.1 t, .object C)) (hx : ¬ x < 0) (hN : x.toNatClampNeg = N) (hb9 : N * 4 ≤ 536870912) (hn : n < 1000) (hcs : (cs.1 + 1, cs.2 + N) = cs') (hm1 : cs'.1 ≤ ev_mc M) (hm2 : cs'.2 ≤ ev_ms M) (kk : Ev E M q L (.ref n :: st) (n + 1) (ev_up w n (aQ t N (fun _ => none))) cs' Q) : Ev E M pc L (.int x :: st) n w cs Q := by
  subst hq; subst hcs
  intro p e s m args below meth c A ad0 n0 ad H locs ls F Dy hl hk hr h1 h2
  refine va_newq (D := E.2.1) (C := C) F.1 F.2.1 F.2.2.2.2.1 (F.2.2.2.2.2.1 _ (List.mem_cons_of_mem _ hcl)) (by rcases hao with rfl | rfl; exact F.2.2.2.2.2.2.2.2.2.2.2.2.2.2.2.2.1; exact F.2.2.2.2.2.2.2.2.2.2.2.2.2.2.2.2.2) F.2.2.2.2.2.2.2.2.1 Dy.2.2.2.2.1 Dy.2.2.2.2.2.1 Dy.2.2.2.2.2.2 F.2.2.2.2.2.2.2.2.2.1 hx hN hb9 hm1 hm2 d (fun a cA H1 hK1 hP hD hS => ?_)
  obtain ⟨-, -, -, -, -, e1⟩ := (hK1.2 5 (cA, .object C) rfl).2
  obtain ⟨-, -, -, -, -, e2⟩ := (F.2.2.2.2.2.2.2.2.1.2 t (E.2.2.1 t, .object C) ht).2
  have e3 : cA = E.2.2.1 t := Option.some.inj (e1.symm.trans e2)
  subst e3
  have Dy' := ev_D_new (a := a) (x := aQ t N (fun _ => none)) Dy hn (fun _ _ h => by cases h) rfl hP hD hS
  have hag := ev_new_ag (n := n) (ad := ad) (a := a) hn
  have hk' := ev_wk_tl hk
  have K := kk p e s m args below meth c A ad0 n0 _ H1 locs ls F Dy' (ev_wl_mono (Nat.le_succ n) hl) (ev_wk_cons (Or.inl (Nat.lt_succ_self n)) (ev_wk_mono (Nat.le_succ n) hk')) (ev_lr_ag hl hr hag) hm1 hm2
  rw [List.map_cons, ev_map_ag hk' hag] at K
  have e9 : ev_cv (fun j => if j = n then a else ad j) (.ref n) = .ref a := by show Value.ref (if n = n then a else ad n) = _; rw [if_pos rfl]
  rw [e9] at K
  exact K
theorem st_objInit {idx k : Nat} (d : decode (ev_cc M) pc = .ok (.invokespecial idx, 3)) (hq : pc + 3 = q) (hl9 : Cond.methodLink (ev_y M).cls idx objectInit ∈ ev_tbl) (hi9 : Cond.instanceMethod objectInit ∈ ev_tbl) (hc9 : Cond.code objectInit ⟨#[0xb1]⟩ 1 none ∈ ev_tbl) (hf : 1 ≤ ev_fr M) (h8 : (st.map fun v => v.category).sum ≤ 8) (hlo : 20 ≤ ev_lo M) (kk : Ev E M q L st n w cs Q) : Ev E M pc L (.ref k :: st) n w cs Q := by
  subst hq
  intro p e s m args below meth c A ad0 n0 ad H locs ls F Dy hl hk hr h1 h2
  have h8' := ev_sum8 h8 ad
  exact W.objInit F.1 F.2.1 F.2.2.2.2.1 (F.2.2.2.2.2.1 _ (List.mem_cons_of_mem _ hl9)) (F.2.2.2.2.2.1 _ (List.mem_cons_of_mem _ hi9)) (F.2.2.2.2.2.1 _ (List.mem_cons_of_mem _ hc9)) rfl (hr.1.trans F.2.2.2.1.symm) rfl d hf (Nat.le_trans (Nat.add_le_add_right (lv_room (m := m) (pc := pc) (ls := ls) (rest := []) h8') 12) hlo) (kk p e s m args below meth c A ad0 n0 ad H locs ls F Dy hl (ev_wk_tl hk) hr h1 h2)
theorem st_ialoadX {k N j : Nat} {g : Nat → Value} {i x : Int32} (d : decode (ev_cc M) pc = .ok (.iaload, 1)) (hq : pc + 1 = q) (hm : (k, FieldType.int, N, g) ∈ ev_ar E) (hk9 : 1000 ≤ k) (hi : ev_ix i N j) (hg : g j = .int x) (kk : Ev E M q L (.int x :: st) n w cs Q) : Ev E M pc L (.int i :: .ref k :: st) n w cs Q := by
  subst hq
  intro p e s m args below meth c A ad0 n0 ad H locs ls F Dy hl hk hr h1 h2
  have hT := F.2.2.2.2.2.2.2.2.2.2.2.1 _ hm
  have ha : ad k = ad0 k := Dy.2.2.1 k (Or.inr hk9)
  obtain ⟨hi, rfl⟩ := hi
  show W p E.1 e (ev_room M) s m args below meth c H locs cs.1 cs.2 _ (F0 m pc ls (.int i :: .ref (ad k) :: st.map (ev_cv ad)))
  rw [ha]
  exact va_ti F.1 F.2.1 hT Dy.2.2.2.2.2.2 hi hg d (kk p e s m args below meth c A ad0 n0 ad H locs ls F Dy hl (ev_wk_cons trivial (ev_wk_tl (ev_wk_tl hk))) hr h1 h2)
theorem st_baloadX {k N j : Nat} {g : Nat → Value} {i x : Int32} (d : decode (ev_cc M) pc = .ok (.baload, 1)) (hq : pc + 1 = q) (hm : (k, FieldType.byte, N, g) ∈ ev_ar E) (hk9 : 1000 ≤ k) (hi : ev_ix i N j) (hg : g j = .int x) (kk : Ev E M q L (.int x :: st) n w cs Q) : Ev E M pc L (.int i :: .ref k :: st) n w cs Q := by
  subst hq
  intro p e s m args below meth c A ad0 n0 ad H locs ls F Dy hl hk hr h1 h2
  have hT := F.2.2.2.2.2.2.2.2.2.2.2.1 _ hm
  have ha : ad k = ad0 k := Dy.2.2.1 k (Or.inr hk9)
  obtain ⟨hi, rfl⟩ := hi
  show W p E.1 e (ev_room M) s m args below meth c H locs cs.1 cs.2 _ (F0 m pc ls (.int i :: .ref (ad k) :: st.map (ev_cv ad)))
  rw [ha]
  exact va_tb F.1 F.2.1 hT Dy.2.2.2.2.2.2 hi hg d (kk p e s m args below meth c A ad0 n0 ad H locs ls F Dy hl (ev_wk_cons trivial (ev_wk_tl (ev_wk_tl hk))) hr h1 h2)
theorem st_alenX {k N : Nat} {g : Nat → Value} {ty : FieldType} {v : Int32} (d : decode (ev_cc M) pc = .ok (.arraylength, 1)) (hq : pc + 1 = q) (hm : (k, ty, N, g) ∈ ev_ar E) (hk9 : 1000 ≤ k) (hv : Int32.ofNat N = v) (kk : Ev E M q L (.int v :: st) n w cs Q) : Ev E M pc L (.ref k :: st) n w cs Q := by
  subst hq
  intro p e s m args below meth c A ad0 n0 ad H locs ls F Dy hl hk hr h1 h2
  have hT := F.2.2.2.2.2.2.2.2.2.2.2.1 _ hm
  have ha : ad k = ad0 k := Dy.2.2.1 k (Or.inr hk9)
  show W p E.1 e (ev_room M) s m args below meth c H locs cs.1 cs.2 _ (F0 m pc ls (.ref (ad k) :: st.map (ev_cv ad)))
  rw [ha]
  exact va_tlen F.1 F.2.1 hT Dy.2.2.2.2.2.2 hv d (kk p e s m args below meth c A ad0 n0 ad H locs ls F Dy hl (ev_wk_cons trivial (ev_wk_tl hk)) hr h1 h2)
theorem st_getstatic {C nm ds : String} {v : Value} {idx : Nat} (d : decode (ev_cc M) pc = .ok (.getstatic idx, 3)) (hq : pc + 3 = q) (hm : (C, nm, ds, v) ∈ ev_st E) (hl9 : Cond.fieldLink (ev_y M).cls idx C nm ds ∈ ev_tbl) (hx : ev_ext v = true) (kk : Ev E M q L (v :: st) n w cs Q) : Ev E M pc L st n w cs Q := by
  subst hq
  intro p e s m args below meth c A ad0 n0 ad H locs ls F Dy hl hk hr h1 h2
  have hZ := F.2.2.2.2.2.2.2.2.2.2.1 _ hm
  have hv : ev_cv ad v = ev_cv ad0 v := ev_cv_ext (fun k hk => Dy.2.2.1 k (Or.inr hk)) hx
  have hwv : ev_wv n v := by
    cases v with
    | ref k => exact Or.inr (Nat.le_of_ble_eq_true hx)
    | _ => trivial
  have K := kk p e s m args below meth c A ad0 n0 ad H locs ls F Dy hl (ev_wk_cons hwv hk) hr h1 h2
  rw [List.map_cons, hv] at K
  exact va_gets F.1 F.2.1 hZ Dy.2.2.2.2.2.2 F.2.2.2.2.1 (F.2.2.2.2.2.1 _ (List.mem_cons_of_mem _ hl9)) (fun _ h => h) d K
theorem st_getX {k idx : Nat} {o nm ds : String} {v : Value} (d : decode (ev_cc M) pc = .ok (.getfield idx, 3)) (hq : pc + 3 = q) (hm : (k, o, nm, ds, v) ∈ ev_of) (hk9 : 1000 ≤ k) (hl9 : Cond.fieldLink (ev_y M).cls idx o nm ds ∈ ev_tbl) (hx : ev_ext v = true) (kk : Ev E M q L (v :: st) n w cs Q) : Ev E M pc L (.ref k :: st) n w cs Q := by
  subst hq
  intro p e s m args below meth c A ad0 n0 ad H locs ls F Dy hl hk hr h1 h2
  have hZ := F.2.2.2.2.2.2.2.2.2.2.2.2.2.1 _ hm
  have ha : ad k = ad0 k := Dy.2.2.1 k (Or.inr hk9)
  have hv : ev_cv ad v = ev_cv ad0 v := ev_cv_ext (fun k hk => Dy.2.2.1 k (Or.inr hk)) hx
  have hwv : ev_wv n v := by
    cases v with
    | ref k => exact Or.inr (Nat.le_of_ble_eq_true hx)
    | _ => trivial
  have K := kk p e s m args below meth c A ad0 n0 ad H locs ls F Dy hl (ev_wk_cons hwv (ev_wk_tl hk)) hr h1 h2
  rw [List.map_cons, hv] at K
  show W p E.1 e (ev_room M) s m args below meth c H locs cs.1 cs.2 _ (F0 m pc ls (.ref (ad k) :: st.map (ev_cv ad)))
  rw [ha]
  exact vk_getf F.1 F.2.1 hZ Dy.2.2.2.2.2.2 F.2.2.2.2.1 (F.2.2.2.2.2.1 _ (List.mem_cons_of_mem _ hl9)) (fun _ h => h) d K
theorem st_ldcS {k idx : Nat} {tx : String} (d : decode (ev_cc M) pc = .ok (.ldc idx, 2)) (hq : pc + 2 = q) (hown : (ev_y M).cls = RX1) (hm : (idx, tx, k) ∈ ev_sr) (hk9 : 1000 ≤ k) (kk : Ev E M q L (.ref k :: st) n w cs Q) : Ev E M pc L st n w cs Q := by
  subst hq
  intro p e s m args below meth c A ad0 n0 ad H locs ls F Dy hl hk hr h1 h2
  have hZ := F.2.2.2.2.2.2.2.2.2.2.2.2.2.2.1 _ hm
  have ha : ad k = ad0 k := Dy.2.2.1 k (Or.inr hk9)
  have K := kk p e s m args below meth c A ad0 n0 ad H locs ls F Dy hl (ev_wk_cons (Or.inr hk9) hk) hr h1 h2
  have K' : W p E.1 e (ev_room M) s m args below meth c H locs cs.1 cs.2 (MQ below (ev_Q E ad0 n0 A Q) args s (ev_mc M) (ev_ms M) A) (F0 m (pc + 2) ls (.ref (ad k) :: st.map (ev_cv ad))) := K
  rw [ha] at K'
  exact va_ldcS F.1 F.2.1 (by rw [← hown]; exact F.2.2.2.2.1) hZ d K'
theorem st_mmax {idx : Nat} {x y : Int32} (d : decode (ev_cc M) pc = .ok (.invokestatic idx, 3)) (hq : pc + 3 = q) (hl9 : Cond.methodLink (ev_y M).cls idx Lib.Math.max.name ∈ ev_tbl) (hs9 : Cond.static Lib.Math.max.name ∈ ev_tbl) (hi9 : Cond.initialized "java/lang/Math" ∈ ev_tbl) (hc9 : Cond.code Lib.Math.max.name Lib.Math.max.code 2 (some .int) ∈ ev_tbl) (hf : 1 ≤ ev_fr M) (h8 : (st.map fun v => v.category).sum ≤ 8) (hlo : 21 ≤ ev_lo M) (kk : Ev E M q L (.int (if x < y then y else x) :: st) n w cs Q) : Ev E M pc L (.int y :: .int x :: st) n w cs Q := by
  subst hq
  intro p e s m args below meth c A ad0 n0 ad H locs ls F Dy hl hk hr h1 h2
  have h8' := ev_sum8 h8 ad
  exact va_mmax F.1 F.2.1 (F.2.2.2.1.trans hr.1.symm) F.2.2.2.2.1 (F.2.2.2.2.2.1 _ (List.mem_cons_of_mem _ hl9)) (F.2.2.2.2.2.1 _ (List.mem_cons_of_mem _ hs9)) (F.2.2.2.2.2.1 _ (List.mem_cons_of_mem _ hi9)) (F.2.2.2.2.2.1 _ (List.mem_cons_of_mem _ hc9)) hf (Nat.le_trans (Nat.add_le_add_right h8' 13) hlo) h1 h2 d (kk p e s m args below meth c A ad0 n0 ad H locs ls F Dy hl (ev_wk_cons trivial (ev_wk_tl (ev_wk_tl hk))) hr h1 h2)
theorem st_mmin {idx : Nat} {x y : Int32} (d : decode (ev_cc M) pc = .ok (.invokestatic idx, 3)) (hq : pc + 3 = q) (hl9 : Cond.methodLink (ev_y M).cls idx Lib.Math.min.name ∈ ev_tbl) (hs9 : Cond.static Lib.Math.min.name ∈ ev_tbl) (hi9 : Cond.initialized "java/lang/Math" ∈ ev_tbl) (hc9 : Cond.code Lib.Math.min.name Lib.Math.min.code 2 (some .int) ∈ ev_tbl) (hf : 1 ≤ ev_fr M) (h8 : (st.map fun v => v.category).sum ≤ 8) (hlo : 21 ≤ ev_lo M) (kk : Ev E M q L (.int (if y < x then y else x) :: st) n w cs Q) : Ev E M pc L (.int y :: .int x :: st) n w cs Q := by
  subst hq
  intro p e s m args below meth c A ad0 n0 ad H locs ls F Dy hl hk hr h1 h2
  have h8' := ev_sum8 h8 ad
  exact va_mmin F.1 F.2.1 (F.2.2.2.1.trans hr.1.symm) F.2.2.2.2.1 (F.2.2.2.2.2.1 _ (List.mem_cons_of_mem _ hl9)) (F.2.2.2.2.2.1 _ (List.mem_cons_of_mem _ hs9)) (F.2.2.2.2.2.1 _ (List.mem_cons_of_mem _ hi9)) (F.2.2.2.2.2.1 _ (List.mem_cons_of_mem _ hc9)) hf (Nat.le_trans (Nat.add_le_add_right h8' 13) hlo) h1 h2 d (kk p e s m args below meth c A ad0 n0 ad H locs ls F Dy hl (ev_wk_cons trivial (ev_wk_tl (ev_wk_tl hk))) hr h1 h2)
theorem st_copy {idx k0 k1 n0 n1 a b z : Nat} {f g : Nat → Int32} {sp dp x : Int32} (d : decode (ev_cc M) pc = .ok (.invokestatic idx, 3)) (hq : pc + 3 = q) (hl9 : Cond.methodLink (ev_y M).cls idx arraycopyName ∈ ev_tbl) (hn9 : Cond.native arraycopyName ∈ ev_tbl) (hs9 : Cond.static arraycopyName ∈ ev_tbl) (hi9 : Cond.initialized "java/lang/System" ∈ ev_tbl) (hk0 : k0 < n) (hw0 : w k0 = aI n0 f) (hk1 : k1 < n) (hw1 : w k1 = aI n1 g) (e1 : ¬ sp < 0) (e2 : ¬ dp < 0) (e3 : ¬ x < 0) (ea : sp.toNatClampNeg = a) (eb : dp.toNatClampNeg = b) (ez : x.toNatClampNeg = z) (e4 : a + z ≤ n0) (e5 : b + z ≤ n1) (hf : 1 ≤ ev_fr M) (h8 : (st.map fun v => v.category).sum ≤ 8) (hlo : 8 + (nativeFrameWords "java/lang/System" "arraycopy" 5 + 11) ≤ ev_lo M) (kk : Ev E M q L st n (ev_up w k1 (aI n1 (va_cpy f g a b z))) cs Q) : Ev E M pc L (.int x :: .int dp :: .ref k1 :: .int sp :: .ref k0 :: st) n w cs Q := by
  subst hq; subst ea; subst eb; subst ez
  intro p e s m args below meth c A ad0 n0' ad H locs ls F Dy hl hk hr h1 h2
  have h8' := ev_sum8 h8 ad
  have he0 := ev_ws_get (cA := E.2.2.1) (ad := ad) (w := w) hk0
  have he1 := ev_ws_get (cA := E.2.2.1) (ad := ad) (w := w) hk1
  rw [hw0] at he0
  rw [hw1] at he1
  exact va_copyi (ty := .int) F.1 F.2.1 (F.2.2.2.1.trans hr.1.symm) F.2.2.2.2.1 (F.2.2.2.2.2.1 _ (List.mem_cons_of_mem _ hl9)) (F.2.2.2.2.2.1 _ (List.mem_cons_of_mem _ hn9)) (F.2.2.2.2.2.1 _ (List.mem_cons_of_mem _ hs9)) (F.2.2.2.2.2.1 _ (List.mem_cons_of_mem _ hi9)) F.2.2.2.2.2.2.2.2.1 Dy.2.2.2.2.1 Dy.2.2.2.2.2.1 Dy.2.2.2.2.2.2 k0 k1 0 0 he0 he1 rfl rfl rfl e1 e2 e3 e4 e5 (fun _ _ => rfl) hf (Nat.le_trans (Nat.add_le_add_right h8' _) hlo) d (fun H1 locs1 hP hD hS => kk p e s m args below meth c A ad0 n0' ad H1 locs1 ls F (ev_D_up Dy hk1 trivial rfl hP hD hS) hl (ev_wk_tl (ev_wk_tl (ev_wk_tl (ev_wk_tl (ev_wk_tl hk))))) hr h1 h2)
theorem ev_end {p : Program} {s : State} {m : MethodId} {args : Array Value} {meth : Method} {c : Code} {A : Nat → Prop} {ad0 : Nat → Nat} {n0 : Nat} {ad : Nat → Nat} {H : Heap} {locs : List Loc} {v : Option Value} {t : State} (Dy : ev_D E A ad0 n0 s ad n w H locs) (hQ : Q v n w) (hv : ∀ x, v = some x → ev_wv n x) (ht : t.heap = H) : ev_Q E ad0 n0 A Q args s (.returned (v.map (ev_cv ad))) t :=
  ⟨⟨v, n, w, ad, rfl, hQ, hv, Dy.1, Dy.2.1, Dy.2.2.1, Dy.2.2.2.1, by rw [ht]; exact Dy.2.2.2.2.1, Dy.2.2.2.2.2.1⟩, Dy.2.2.2.2.2.2.F ht⟩
theorem st_ireturn {x : Int32} (d : decode (ev_cc M) pc = .ok (.ireturn, 1)) (hr9 : ev_rt M = some .int) (hQ : Q (some (.int x)) n w) : Ev E M pc L [.int x] n w cs Q := by
  intro p e s m args below meth c A ad0 n0 ad H locs ls F Dy hl hk hr h1 h2
  refine W.widen h1 h2 ?_
  exact W.iret F.1 F.2.1 (F.2.2.1.trans hr9) (fun t ht hW => ev_end (p := p) (m := m) (meth := meth) (c := c) Dy (v := some (.int x)) hQ (fun y hy => by cases hy; trivial) ht) Dy.2.2.2.2.2.2.2.2 d F.2.2.2.2.2.2.1
theorem st_nreturn {x : Int32} {ty : FieldType} (d : decode (ev_cc M) pc = .ok (.ireturn, 1)) (hr9 : ev_rt M = some ty) (hn9 : narrow ty (.int x) = .int x) (hQ : Q (some (.int x)) n w) : Ev E M pc L [.int x] n w cs Q := by
  intro p e s m args below meth c A ad0 n0 ad H locs ls F Dy hl hk hr h1 h2
  refine W.widen h1 h2 ?_
  exact W.zret F.1 F.2.1 (F.2.2.1.trans hr9) hn9 (fun t ht hW => ev_end (p := p) (m := m) (meth := meth) (c := c) Dy (v := some (.int x)) hQ (fun y hy => by cases hy; trivial) ht) Dy.2.2.2.2.2.2.2.2 d F.2.2.2.2.2.2.1
theorem st_lreturn {x : Int64} (d : decode (ev_cc M) pc = .ok (.lreturn, 1)) (hr9 : ev_rt M = some .long) (hQ : Q (some (.long x)) n w) : Ev E M pc L [.long x] n w cs Q := by
  intro p e s m args below meth c A ad0 n0 ad H locs ls F Dy hl hk hr h1 h2
  refine W.widen h1 h2 ?_
  exact W.lret F.1 F.2.1 (F.2.2.1.trans hr9) (fun t ht hW => ev_end (p := p) (m := m) (meth := meth) (c := c) Dy (v := some (.long x)) hQ (fun y hy => by cases hy; trivial) ht) Dy.2.2.2.2.2.2.2.2 d F.2.2.2.2.2.2.1
theorem st_areturn {k : Nat} {rt : FieldType} (d : decode (ev_cc M) pc = .ok (.areturn, 1)) (hr9 : ev_rt M = some rt) (hrt : (∃ a, rt = .object a) ∨ ∃ t, rt = .array t) (hQ : Q (some (.ref k)) n w) : Ev E M pc L [.ref k] n w cs Q := by
  intro p e s m args below meth c A ad0 n0 ad H locs ls F Dy hl hk hr h1 h2
  refine W.widen h1 h2 ?_
  exact W.aret (v := .ref (ad k)) F.1 F.2.1 (F.2.2.1.trans hr9) hrt (Or.inr ⟨_, rfl⟩) (fun t ht hW => ev_end (p := p) (m := m) (meth := meth) (c := c) Dy (v := some (.ref k)) hQ (fun y hy => by cases hy; exact ev_wk_hd hk) ht) Dy.2.2.2.2.2.2.2.2 d F.2.2.2.2.2.2.1
theorem st_return (d : decode (ev_cc M) pc = .ok (.return_, 1)) (hr9 : ev_rt M = none) (hQ : Q none n w) : Ev E M pc L [] n w cs Q := by
  intro p e s m args below meth c A ad0 n0 ad H locs ls F Dy hl hk hr h1 h2
  refine W.widen h1 h2 ?_
  exact W.vret F.1 F.2.1 (F.2.2.1.trans hr9) (fun t ht hW => ev_end (p := p) (m := m) (meth := meth) (c := c) Dy (v := none) hQ (fun y hy => by cases hy) ht) Dy.2.2.2.2.2.2.2.2 d F.2.2.2.2.2.2.1
end EVR
