section EVC
variable {E : ev_E} {M : ev_M} {pc q : Nat} {L : List (Option Value)} {st : List Value} {n : Nat} {w : ev_W} {cs cs' : Nat × Nat} {Q : Option Value → Nat → ev_W → Prop}
theorem k_newI {x : Int32} {N : Nat} (d : decode (ev_cc M) pc = .ok (.newarray .int, 2)) (hq : pc + 2 = q) (hx : ¬ x < 0) (hN : x.toNatClampNeg = N) (hb9 : N * 4 ≤ 536870912) (hn : n < 1000) (hcs : (cs.1 + 1, cs.2 + N) = cs') (hm1 : cs'.1 ≤ ev_mc M) (hm2 : cs'.2 ≤ ev_ms M) (kk : ∀ w', w' n = aI N (fun _ => 0) → (∀ k, k ≠ n → w' k = w k) → Ev E M q L (.ref n :: st) (n + 1) w' cs' Q) : Ev E M pc L (.int x :: st) n w cs Q := st_newI d hq ac_int hx hN hb9 hn hcs hm1 hm2 (kk _ ev_up_s (fun k hk => ev_up_n hk))
theorem k_newB {x : Int32} {N : Nat} (d : decode (ev_cc M) pc = .ok (.newarray .byte, 2)) (hq : pc + 2 = q) (hx : ¬ x < 0) (hN : x.toNatClampNeg = N) (hb9 : N * 1 ≤ 536870912) (hn : n < 1000) (hcs : (cs.1 + 1, cs.2 + N) = cs') (hm1 : cs'.1 ≤ ev_mc M) (hm2 : cs'.2 ≤ ev_ms M) (kk : ∀ w', w' n = aB N (fun _ => 0) → (∀ k, k ≠ n → w' k = w k) → Ev E M q L (.ref n :: st) (n + 1) w' cs' Q) : Ev E M pc L (.int x :: st) n w cs Q := st_newB d hq ac_byte hx hN hb9 hn hcs hm1 hm2 (kk _ ev_up_s (fun k hk => ev_up_n hk))
theorem k_newZ {x : Int32} {N : Nat} (d : decode (ev_cc M) pc = .ok (.newarray .boolean, 2)) (hq : pc + 2 = q) (hx : ¬ x < 0) (hN : x.toNatClampNeg = N) (hb9 : N * 1 ≤ 536870912) (hn : n < 1000) (hcs : (cs.1 + 1, cs.2 + N) = cs') (hm1 : cs'.1 ≤ ev_mc M) (hm2 : cs'.2 ≤ ev_ms M) (kk : ∀ w', w' n = aZ N (fun _ => 0) → (∀ k, k ≠ n → w' k = w k) → Ev E M q L (.ref n :: st) (n + 1) w' cs' Q) : Ev E M pc L (.int x :: st) n w cs Q := st_newZ d hq ac_boolean hx hN hb9 hn hcs hm1 hm2 (kk _ ev_up_s (fun k hk => ev_up_n hk))
theorem k_newQ {x : Int32} {N idx t : Nat} {C : String} (d : decode (ev_cc M) pc = .ok (.anewarray idx, 3)) (hq : pc + 3 = q) (hcl : Cond.classLink (ev_y M).cls idx C ∈ ev_tbl) (hao : C = RX5 ∨ C = RX2) (ht : (ev_tys E.2.2.1)[t]? = some (E.2.2.1 t, .object C)) (hx : ¬ x < 0) (hN : x.toNatClampNeg = N) (hb9 : N * 4 ≤ 536870912) (hn : n < 1000) (hcs : (cs.1 + 1, cs.2 + N) = cs') (hm1 : cs'.1 ≤ ev_mc M) (hm2 : cs'.2 ≤ ev_ms M) (kk : ∀ w', w' n = aQ t N (fun _ => none) → (∀ k, k ≠ n → w' k = w k) → Ev E M q L (.ref n :: st) (n + 1) w' cs' Q) : Ev E M pc L (.int x :: st) n w cs Q := st_newQ d hq hcl hao ht hx hN hb9 hn hcs hm1 hm2 (kk _ ev_up_s (fun k hk => ev_up_n hk))
theorem k_putF {idx ci j k r : Nat} {fs fs' : List Value} {u : Value} {t : FieldType} (d : decode (ev_cc M) pc = .ok (.putfield idx, 3)) (hq : pc + 3 = q) (fl : ev_FF (ev_y M).cls idx ci j t) (hin : (ev_y M).name = "<init>") (hk9 : k < n) (hw : w k = oO ci fs) (hu : ev_nth fs j = some u) (hnar : ∀ a, narrow t (.ref a) = .ref a) (hfit : ∀ a, fits t (.ref a) = true) (hfs : ev_rep fs j (.ref r) = fs') (kk : ∀ w', w' k = oO ci fs' → (∀ i, i ≠ k → w' i = w i) → Ev E M q L st n w' cs Q) : Ev E M pc L (.ref r :: .ref k :: st) n w cs Q := st_putF d hq fl hin hk9 hw hu hnar hfit hfs (kk _ ev_up_s (fun i hi => ev_up_n hi))
theorem k_put {idx ci j k : Nat} {fs fs' : List Value} {x : Int32} {u : Value} {t : FieldType} (d : decode (ev_cc M) pc = .ok (.putfield idx, 3)) (hq : pc + 3 = q) (fl : ev_FP (ev_y M).cls idx ci j t) (hk9 : k < n) (hw : w k = oO ci fs) (hu : ev_nth fs j = some u) (hnar : narrow t (.int x) = .int x) (hfit : fits t (.int x) = true) (hfs : ev_rep fs j (.int x) = fs') (kk : ∀ w', w' k = oO ci fs' → (∀ i, i ≠ k → w' i = w i) → Ev E M q L st n w' cs Q) : Ev E M pc L (.int x :: .ref k :: st) n w cs Q := st_putfield d hq fl hk9 hw hu hnar hfit hfs (kk _ ev_up_s (fun i hi => ev_up_n hi))
theorem k_ast {k len j : Nat} {f : Nat → Int32} {i x : Int32} (d : decode (ev_cc M) pc = .ok (.iastore, 1)) (hq : pc + 1 = q) (hk9 : k < n) (hw : w k = aI len f) (hi : ev_ix i len j) (kk : ∀ w', w' k = aI len (upd f j x) → (∀ i, i ≠ k → w' i = w i) → Ev E M q L st n w' cs Q) : Ev E M pc L (.int x :: .int i :: .ref k :: st) n w cs Q := st_iastore d hq hk9 hw hi (kk _ ev_up_s (fun i hi => ev_up_n hi))
theorem k_new {idx ci N : Nat} {C : String} {T : u_T} {ty : Nat → FieldType} {fs : List Value} (d : decode (ev_cc M) pc = .ok (.new idx, 3)) (hq : pc + 3 = q) (hC : ev_CI ci C T N ty) (hcl : Cond.classLink (ev_y M).cls idx C ∈ ev_tbl) (hinst : Cond.instantiable C N ∈ ev_tbl) (hini : Cond.initialized C ∈ ev_tbl) (hfs : ∀ j, j < N → defaultValue (ty j) = vp_V fs j) (hrf : ∀ v ∈ fs, ev_ext v = true ∧ ∀ ad, ev_cv ad v = v) (hn : n < 1000) (hcs : (cs.1 + 1, cs.2 + N) = cs') (hm1 : cs'.1 ≤ ev_mc M) (hm2 : cs'.2 ≤ ev_ms M) (kk : ∀ w', w' n = oO ci fs → (∀ k, k ≠ n → w' k = w k) → Ev E M q L (.ref n :: st) (n + 1) w' cs' Q) : Ev E M pc L st n w cs Q := st_new d hq hC hcl hinst hini hfs hrf hn hcs hm1 hm2 (kk _ ev_up_s (fun k hk => ev_up_n hk))
theorem k_aast {k t len j r ci : Nat} {C : String} {T : u_T} {N : Nat} {vs : List Value} {g : Nat → Option Nat} {i : Int32} (d : decode (ev_cc M) pc = .ok (.aastore, 1)) (hq : pc + 1 = q) (hk9 : k < n) (hw : w k = aQ t len g) (ht : (ev_tys E.2.2.1)[t]? = some (E.2.2.1 t, .object C)) (hr9 : r < n) (hw2 : w r = oO ci vs) (hc : vwCl[ci]? = some (C, T, N)) (hi : ev_ix i len j) (kk : ∀ w', w' k = aQ t len (va_up g j (some r)) → (∀ i, i ≠ k → w' i = w i) → Ev E M q L st n w' cs Q) : Ev E M pc L (.ref r :: .int i :: .ref k :: st) n w cs Q := st_aastore d hq hk9 hw ht hr9 hw2 hc hi (kk _ ev_up_s (fun i hi => ev_up_n hi))
end EVC
theorem GR.wk {ci : Nat} {lay : gL} {sz : Nat} {T : gT} {b n n' : Nat} {w : ev_W} (h : GR ci lay sz T b n w) (hn : n ≤ n') : GR ci lay sz T b n' w := ⟨by have := h.1; omega, h.2⟩
def z0T : gT := fun _ _ => 0
def t5T : gT := fun i _ => if i = 13 then 4 else if i = 14 then 4 else 0
def m7T : gT := fun i j => if i = 18 then nI (enL.getD j 0) else if i = 19 then ltL.getD j 0 else if i = 25 then -4 else 0
set_option maxRecDepth 100000 in
set_option maxHeartbeats 4000000 in
theorem c_X5_init {E : ev_E} {b : Nat} {w0 : ev_W} (hb : w0 b = oO 5 [.int 0, .null, .null, .null, .null, .int 0, .int 0, .null, .null, .null, .null, .int 0, .int 0, .null, .int 0, .int 0, .int 0, .int 0]) (hlt : b + 10 < 1000) : Ct E mX5_init [.ref b] (b + 1) w0 (fun a m u => a = none ∧ m = b + 10 ∧ GR 5 layX5 9 t5T b (b + 10) u ∧ Fr b (b + 10) w0 u) := by
  refine Ct.of 0 (by decide) (Nat.le_of_ble_eq_true rfl) rfl ?_
  have hF : Fr b (b + 10) w0 w0 := Fr.rf
  refine st_aload_n (q := 1) dX5_init_0 rfl rfl rfl ?_
  refine st_objInit (q := 4) dX5_init_1 rfl ml_X5_3 jo_i jo_c (Nat.le_of_ble_eq_true rfl) (Nat.le_of_ble_eq_true rfl) (Nat.le_of_ble_eq_true rfl) ?_
  refine st_aload_n (q := 5) dX5_init_4 rfl rfl rfl ?_
  refine st_iconst (q := 6) dX5_init_5 rfl ic_4 ?_
  refine k_newI (q := 8) (N := 4) (cs' := (1, 4)) dX5_init_6 rfl (by decide) (by decide) (by decide) (by omega) rfl (Nat.le_of_ble_eq_true rfl) (Nat.le_of_ble_eq_true rfl) (fun w h9 r9 => ?_)
  replace hb := (r9 _ (by omega)).trans hb
  replace hF : Fr b (b + 10) w0 w := fun k hk => (r9 k (by omega)).trans (hF k hk)
  have a1 := h9
  refine k_putF (q := 11) dX5_init_8 rfl fl_X5_9 rfl (by omega) hb rfl (fun _ => rfl) (fun _ => rfl) rfl (fun w h9 r9 => ?_)
  replace a1 := (r9 _ (by omega)).trans a1
  replace hF : Fr b (b + 10) w0 w := fun k hk => (r9 k (by omega)).trans (hF k hk)
  replace hb : w b = oO 5 [.int 0, .ref (b + 1), .null, .null, .null, .int 0, .int 0, .null, .null, .null, .null, .int 0, .int 0, .null, .int 0, .int 0, .int 0, .int 0] := h9
  refine st_aload_n (q := 12) dX5_init_11 rfl rfl rfl ?_
  refine st_iconst (q := 13) dX5_init_12 rfl ic_4 ?_
  refine k_newI (q := 15) (N := 4) (cs' := (2, 8)) dX5_init_13 rfl (by decide) (by decide) (by decide) (by omega) rfl (Nat.le_of_ble_eq_true rfl) (Nat.le_of_ble_eq_true rfl) (fun w h9 r9 => ?_)
  replace hb := (r9 _ (by omega)).trans hb
  replace a1 := (r9 _ (by omega)).trans a1
  replace hF : Fr b (b + 10) w0 w := fun k hk => (r9 k (by omega)).trans (hF k hk)
  have a2 := h9
  refine k_putF (q := 18) dX5_init_15 rfl fl_X5_15 rfl (by omega) hb rfl (fun _ => rfl) (fun _ => rfl) rfl (fun w h9 r9 => ?_)
  replace a1 := (r9 _ (by omega)).trans a1
  replace a2 := (r9 _ (by omega)).trans a2
  replace hF : Fr b (b + 10) w0 w := fun k hk => (r9 k (by omega)).trans (hF k hk)
  replace hb : w b = oO 5 [.int 0, .ref (b + 1), .ref (b + 2), .null, .null, .int 0, .int 0, .null, .null, .null, .null, .int 0, .int 0, .null, .int 0, .int 0, .int 0, .int 0] := h9
  refine st_aload_n (q := 19) dX5_init_18 rfl rfl rfl ?_
  refine st_iconst (q := 20) dX5_init_19 rfl ic_4 ?_
  refine k_newI (q := 22) (N := 4) (cs' := (3, 12)) dX5_init_20 rfl (by decide) (by decide) (by decide) (by omega) rfl (Nat.le_of_ble_eq_true rfl) (Nat.le_of_ble_eq_true rfl) (fun w h9 r9 => ?_)
  replace hb := (r9 _ (by omega)).trans hb
  replace a1 := (r9 _ (by omega)).trans a1
  replace a2 := (r9 _ (by omega)).trans a2
  replace hF : Fr b (b + 10) w0 w := fun k hk => (r9 k (by omega)).trans (hF k hk)
  have a3 := h9
  refine k_putF (q := 25) dX5_init_22 rfl fl_X5_18 rfl (by omega) hb rfl (fun _ => rfl) (fun _ => rfl) rfl (fun w h9 r9 => ?_)
  replace a1 := (r9 _ (by omega)).trans a1
  replace a2 := (r9 _ (by omega)).trans a2
  replace a3 := (r9 _ (by omega)).trans a3
  replace hF : Fr b (b + 10) w0 w := fun k hk => (r9 k (by omega)).trans (hF k hk)
  replace hb : w b = oO 5 [.int 0, .ref (b + 1), .ref (b + 2), .ref (b + 3), .null, .int 0, .int 0, .null, .null, .null, .null, .int 0, .int 0, .null, .int 0, .int 0, .int 0, .int 0] := h9
  refine st_aload_n (q := 26) dX5_init_25 rfl rfl rfl ?_
  refine st_iconst (q := 27) dX5_init_26 rfl ic_4 ?_
  refine k_newI (q := 29) (N := 4) (cs' := (4, 16)) dX5_init_27 rfl (by decide) (by decide) (by decide) (by omega) rfl (Nat.le_of_ble_eq_true rfl) (Nat.le_of_ble_eq_true rfl) (fun w h9 r9 => ?_)
  replace hb := (r9 _ (by omega)).trans hb
  replace a1 := (r9 _ (by omega)).trans a1
  replace a2 := (r9 _ (by omega)).trans a2
  replace a3 := (r9 _ (by omega)).trans a3
  replace hF : Fr b (b + 10) w0 w := fun k hk => (r9 k (by omega)).trans (hF k hk)
  have a4 := h9
  refine k_putF (q := 32) dX5_init_29 rfl fl_X5_21 rfl (by omega) hb rfl (fun _ => rfl) (fun _ => rfl) rfl (fun w h9 r9 => ?_)
  replace a1 := (r9 _ (by omega)).trans a1
  replace a2 := (r9 _ (by omega)).trans a2
  replace a3 := (r9 _ (by omega)).trans a3
  replace a4 := (r9 _ (by omega)).trans a4
  replace hF : Fr b (b + 10) w0 w := fun k hk => (r9 k (by omega)).trans (hF k hk)
  replace hb : w b = oO 5 [.int 0, .ref (b + 1), .ref (b + 2), .ref (b + 3), .ref (b + 4), .int 0, .int 0, .null, .null, .null, .null, .int 0, .int 0, .null, .int 0, .int 0, .int 0, .int 0] := h9
  refine st_aload_n (q := 33) dX5_init_32 rfl rfl rfl ?_
  refine st_bipush (q := 35) dX5_init_33 rfl bp_8 ?_
  refine k_newI (q := 37) (N := 8) (cs' := (5, 24)) dX5_init_35 rfl (by decide) (by decide) (by decide) (by omega) rfl (Nat.le_of_ble_eq_true rfl) (Nat.le_of_ble_eq_true rfl) (fun w h9 r9 => ?_)
  replace hb := (r9 _ (by omega)).trans hb
  replace a1 := (r9 _ (by omega)).trans a1
  replace a2 := (r9 _ (by omega)).trans a2
  replace a3 := (r9 _ (by omega)).trans a3
  replace a4 := (r9 _ (by omega)).trans a4
  replace hF : Fr b (b + 10) w0 w := fun k hk => (r9 k (by omega)).trans (hF k hk)
  have a5 := h9
  refine k_putF (q := 40) dX5_init_37 rfl fl_X5_24 rfl (by omega) hb rfl (fun _ => rfl) (fun _ => rfl) rfl (fun w h9 r9 => ?_)
  replace a1 := (r9 _ (by omega)).trans a1
  replace a2 := (r9 _ (by omega)).trans a2
  replace a3 := (r9 _ (by omega)).trans a3
  replace a4 := (r9 _ (by omega)).trans a4
  replace a5 := (r9 _ (by omega)).trans a5
  replace hF : Fr b (b + 10) w0 w := fun k hk => (r9 k (by omega)).trans (hF k hk)
  replace hb : w b = oO 5 [.int 0, .ref (b + 1), .ref (b + 2), .ref (b + 3), .ref (b + 4), .int 0, .int 0, .ref (b + 5), .null, .null, .null, .int 0, .int 0, .null, .int 0, .int 0, .int 0, .int 0] := h9
  refine st_aload_n (q := 41) dX5_init_40 rfl rfl rfl ?_
  refine st_bipush (q := 43) dX5_init_41 rfl bp_8 ?_
  refine k_newI (q := 45) (N := 8) (cs' := (6, 32)) dX5_init_43 rfl (by decide) (by decide) (by decide) (by omega) rfl (Nat.le_of_ble_eq_true rfl) (Nat.le_of_ble_eq_true rfl) (fun w h9 r9 => ?_)
  replace hb := (r9 _ (by omega)).trans hb
  replace a1 := (r9 _ (by omega)).trans a1
  replace a2 := (r9 _ (by omega)).trans a2
  replace a3 := (r9 _ (by omega)).trans a3
  replace a4 := (r9 _ (by omega)).trans a4
  replace a5 := (r9 _ (by omega)).trans a5
  replace hF : Fr b (b + 10) w0 w := fun k hk => (r9 k (by omega)).trans (hF k hk)
  have a6 := h9
  refine k_putF (q := 48) dX5_init_45 rfl fl_X5_27 rfl (by omega) hb rfl (fun _ => rfl) (fun _ => rfl) rfl (fun w h9 r9 => ?_)
  replace a1 := (r9 _ (by omega)).trans a1
  replace a2 := (r9 _ (by omega)).trans a2
  replace a3 := (r9 _ (by omega)).trans a3
  replace a4 := (r9 _ (by omega)).trans a4
  replace a5 := (r9 _ (by omega)).trans a5
  replace a6 := (r9 _ (by omega)).trans a6
  replace hF : Fr b (b + 10) w0 w := fun k hk => (r9 k (by omega)).trans (hF k hk)
  replace hb : w b = oO 5 [.int 0, .ref (b + 1), .ref (b + 2), .ref (b + 3), .ref (b + 4), .int 0, .int 0, .ref (b + 5), .ref (b + 6), .null, .null, .int 0, .int 0, .null, .int 0, .int 0, .int 0, .int 0] := h9
  refine st_aload_n (q := 49) dX5_init_48 rfl rfl rfl ?_
  refine st_bipush (q := 51) dX5_init_49 rfl bp_8 ?_
  refine k_newI (q := 53) (N := 8) (cs' := (7, 40)) dX5_init_51 rfl (by decide) (by decide) (by decide) (by omega) rfl (Nat.le_of_ble_eq_true rfl) (Nat.le_of_ble_eq_true rfl) (fun w h9 r9 => ?_)
  replace hb := (r9 _ (by omega)).trans hb
  replace a1 := (r9 _ (by omega)).trans a1
  replace a2 := (r9 _ (by omega)).trans a2
  replace a3 := (r9 _ (by omega)).trans a3
  replace a4 := (r9 _ (by omega)).trans a4
  replace a5 := (r9 _ (by omega)).trans a5
  replace a6 := (r9 _ (by omega)).trans a6
  replace hF : Fr b (b + 10) w0 w := fun k hk => (r9 k (by omega)).trans (hF k hk)
  have a7 := h9
  refine k_putF (q := 56) dX5_init_53 rfl fl_X5_30 rfl (by omega) hb rfl (fun _ => rfl) (fun _ => rfl) rfl (fun w h9 r9 => ?_)
  replace a1 := (r9 _ (by omega)).trans a1
  replace a2 := (r9 _ (by omega)).trans a2
  replace a3 := (r9 _ (by omega)).trans a3
  replace a4 := (r9 _ (by omega)).trans a4
  replace a5 := (r9 _ (by omega)).trans a5
  replace a6 := (r9 _ (by omega)).trans a6
  replace a7 := (r9 _ (by omega)).trans a7
  replace hF : Fr b (b + 10) w0 w := fun k hk => (r9 k (by omega)).trans (hF k hk)
  replace hb : w b = oO 5 [.int 0, .ref (b + 1), .ref (b + 2), .ref (b + 3), .ref (b + 4), .int 0, .int 0, .ref (b + 5), .ref (b + 6), .ref (b + 7), .null, .int 0, .int 0, .null, .int 0, .int 0, .int 0, .int 0] := h9
  refine st_aload_n (q := 57) dX5_init_56 rfl rfl rfl ?_
  refine st_bipush (q := 59) dX5_init_57 rfl bp_8 ?_
  refine k_newI (q := 61) (N := 8) (cs' := (8, 48)) dX5_init_59 rfl (by decide) (by decide) (by decide) (by omega) rfl (Nat.le_of_ble_eq_true rfl) (Nat.le_of_ble_eq_true rfl) (fun w h9 r9 => ?_)
  replace hb := (r9 _ (by omega)).trans hb
  replace a1 := (r9 _ (by omega)).trans a1
  replace a2 := (r9 _ (by omega)).trans a2
  replace a3 := (r9 _ (by omega)).trans a3
  replace a4 := (r9 _ (by omega)).trans a4
  replace a5 := (r9 _ (by omega)).trans a5
  replace a6 := (r9 _ (by omega)).trans a6
  replace a7 := (r9 _ (by omega)).trans a7
  replace hF : Fr b (b + 10) w0 w := fun k hk => (r9 k (by omega)).trans (hF k hk)
  have a8 := h9
  refine k_putF (q := 64) dX5_init_61 rfl fl_X5_33 rfl (by omega) hb rfl (fun _ => rfl) (fun _ => rfl) rfl (fun w h9 r9 => ?_)
  replace a1 := (r9 _ (by omega)).trans a1
  replace a2 := (r9 _ (by omega)).trans a2
  replace a3 := (r9 _ (by omega)).trans a3
  replace a4 := (r9 _ (by omega)).trans a4
  replace a5 := (r9 _ (by omega)).trans a5
  replace a6 := (r9 _ (by omega)).trans a6
  replace a7 := (r9 _ (by omega)).trans a7
  replace a8 := (r9 _ (by omega)).trans a8
  replace hF : Fr b (b + 10) w0 w := fun k hk => (r9 k (by omega)).trans (hF k hk)
  replace hb : w b = oO 5 [.int 0, .ref (b + 1), .ref (b + 2), .ref (b + 3), .ref (b + 4), .int 0, .int 0, .ref (b + 5), .ref (b + 6), .ref (b + 7), .ref (b + 8), .int 0, .int 0, .null, .int 0, .int 0, .int 0, .int 0] := h9
  refine st_aload_n (q := 65) dX5_init_64 rfl rfl rfl ?_
  refine st_bipush (q := 67) dX5_init_65 rfl bp_7 ?_
  refine k_newI (q := 69) (N := 7) (cs' := (9, 55)) dX5_init_67 rfl (by decide) (by decide) (by decide) (by omega) rfl (Nat.le_of_ble_eq_true rfl) (Nat.le_of_ble_eq_true rfl) (fun w h9 r9 => ?_)
  replace hb := (r9 _ (by omega)).trans hb
  replace a1 := (r9 _ (by omega)).trans a1
  replace a2 := (r9 _ (by omega)).trans a2
  replace a3 := (r9 _ (by omega)).trans a3
  replace a4 := (r9 _ (by omega)).trans a4
  replace a5 := (r9 _ (by omega)).trans a5
  replace a6 := (r9 _ (by omega)).trans a6
  replace a7 := (r9 _ (by omega)).trans a7
  replace a8 := (r9 _ (by omega)).trans a8
  replace hF : Fr b (b + 10) w0 w := fun k hk => (r9 k (by omega)).trans (hF k hk)
  have a9 := h9
  refine k_putF (q := 72) dX5_init_69 rfl fl_X5_36 rfl (by omega) hb rfl (fun _ => rfl) (fun _ => rfl) rfl (fun w h9 r9 => ?_)
  replace a1 := (r9 _ (by omega)).trans a1
  replace a2 := (r9 _ (by omega)).trans a2
  replace a3 := (r9 _ (by omega)).trans a3
  replace a4 := (r9 _ (by omega)).trans a4
  replace a5 := (r9 _ (by omega)).trans a5
  replace a6 := (r9 _ (by omega)).trans a6
  replace a7 := (r9 _ (by omega)).trans a7
  replace a8 := (r9 _ (by omega)).trans a8
  replace a9 := (r9 _ (by omega)).trans a9
  replace hF : Fr b (b + 10) w0 w := fun k hk => (r9 k (by omega)).trans (hF k hk)
  replace hb : w b = oO 5 [.int 0, .ref (b + 1), .ref (b + 2), .ref (b + 3), .ref (b + 4), .int 0, .int 0, .ref (b + 5), .ref (b + 6), .ref (b + 7), .ref (b + 8), .int 0, .int 0, .ref (b + 9), .int 0, .int 0, .int 0, .int 0] := h9
  refine st_aload_n (q := 73) dX5_init_72 rfl rfl rfl ?_
  refine st_getfield (q := 76) dX5_init_73 rfl fl_X5_36.g (by omega) hb rfl ?_
  refine st_iconst (q := 77) dX5_init_76 rfl ic_4 ?_
  refine sm_S2 (q := 80) (M' := mJ7_fill_53178) dX5_init_77 rfl ok_J7_fill_53178 mk_J7_fill_53178 ml_X5_39 ⟨(Nat.le_of_ble_eq_true rfl), (Nat.le_of_ble_eq_true rfl)⟩ rfl (Nat.le_of_ble_eq_true rfl) ⟨rfl, rfl⟩ (c_J7_fill_53178 (by omega) a9 (by decide)) ?_
  intro _ n9 w h9 _
  obtain ⟨rfl, rfl, ⟨g9, e9, hg9⟩, r9⟩ := h9
  replace hb := (r9 _ (by omega)).trans hb
  replace a1 := (r9 _ (by omega)).trans a1
  replace a2 := (r9 _ (by omega)).trans a2
  replace a3 := (r9 _ (by omega)).trans a3
  replace a4 := (r9 _ (by omega)).trans a4
  replace a5 := (r9 _ (by omega)).trans a5
  replace a6 := (r9 _ (by omega)).trans a6
  replace a7 := (r9 _ (by omega)).trans a7
  replace a8 := (r9 _ (by omega)).trans a8
  replace hF : Fr b (b + 10) w0 w := fun k hk => (r9 k (by omega)).trans (hF k hk)
  replace a9 := e9
  refine st_aload_n (q := 81) dX5_init_80 rfl rfl rfl ?_
  refine st_iconst (q := 82) dX5_init_81 rfl ic_4 ?_
  refine k_put (q := 85) dX5_init_82 rfl fl_X5_45 (by omega) hb rfl rfl rfl rfl (fun w h9 r9 => ?_)
  replace a1 := (r9 _ (by omega)).trans a1
  replace a2 := (r9 _ (by omega)).trans a2
  replace a3 := (r9 _ (by omega)).trans a3
  replace a4 := (r9 _ (by omega)).trans a4
  replace a5 := (r9 _ (by omega)).trans a5
  replace a6 := (r9 _ (by omega)).trans a6
  replace a7 := (r9 _ (by omega)).trans a7
  replace a8 := (r9 _ (by omega)).trans a8
  replace a9 := (r9 _ (by omega)).trans a9
  replace hF : Fr b (b + 10) w0 w := fun k hk => (r9 k (by omega)).trans (hF k hk)
  replace hb : w b = oO 5 [.int 0, .ref (b + 1), .ref (b + 2), .ref (b + 3), .ref (b + 4), .int 0, .int 0, .ref (b + 5), .ref (b + 6), .ref (b + 7), .ref (b + 8), .int 0, .int 0, .ref (b + 9), .int 4, .int 0, .int 0, .int 0] := h9
  refine st_return dX5_init_85 rfl ?_
  refine ⟨rfl, rfl, ⟨by omega, hb, fun i o ty len hi => ?_⟩, hF⟩
  match i, hi with
  | 0, hi => cases hi
  | 1, hi => cases hi; exact ⟨_, a1, fun j _ => rfl⟩
  | 2, hi => cases hi; exact ⟨_, a2, fun j _ => rfl⟩
  | 3, hi => cases hi; exact ⟨_, a3, fun j _ => rfl⟩
  | 4, hi => cases hi; exact ⟨_, a4, fun j _ => rfl⟩
  | 5, hi => cases hi
  | 6, hi => cases hi
  | 7, hi => cases hi; exact ⟨_, a5, fun j _ => rfl⟩
  | 8, hi => cases hi; exact ⟨_, a6, fun j _ => rfl⟩
  | 9, hi => cases hi; exact ⟨_, a7, fun j _ => rfl⟩
  | 10, hi => cases hi; exact ⟨_, a8, fun j _ => rfl⟩
  | 11, hi => cases hi
  | 12, hi => cases hi
  | 13, hi => cases hi; exact ⟨_, a9, fun j hj => hg9 j hj⟩
  | 14, hi => cases hi
  | 15, hi => cases hi
  | 16, hi => cases hi
  | 17, hi => cases hi
  | _ + 18, hi => cases hi
set_option maxRecDepth 100000 in
set_option maxHeartbeats 4000000 in
theorem c_X4_init {E : ev_E} {b : Nat} {w0 : ev_W} (hb : w0 b = oO 4 [.null, .int 0]) (hlt : b + 2 < 1000) : Ct E mX4_init [.ref b] (b + 1) w0 (fun a m u => a = none ∧ m = b + 2 ∧ GR 4 layX4 1 z0T b (b + 2) u ∧ Fr b (b + 2) w0 u) := by
  refine Ct.of 0 (by decide) (Nat.le_of_ble_eq_true rfl) rfl ?_
  have hF : Fr b (b + 2) w0 w0 := Fr.rf
  refine st_aload_n (q := 1) dX4_init_0 rfl rfl rfl ?_
  refine st_objInit (q := 4) dX4_init_1 rfl ml_X4_1 jo_i jo_c (Nat.le_of_ble_eq_true rfl) (Nat.le_of_ble_eq_true rfl) (Nat.le_of_ble_eq_true rfl) ?_
  refine st_aload_n (q := 5) dX4_init_4 rfl rfl rfl ?_
  refine st_sipush (q := 8) dX4_init_5 rfl sp_160 ?_
  refine k_newB (q := 10) (N := 160) (cs' := (1, 160)) dX4_init_8 rfl (by decide) (by decide) (by decide) (by omega) rfl (Nat.le_of_ble_eq_true rfl) (Nat.le_of_ble_eq_true rfl) (fun w h9 r9 => ?_)
  replace hb := (r9 _ (by omega)).trans hb
  replace hF : Fr b (b + 2) w0 w := fun k hk => (r9 k (by omega)).trans (hF k hk)
  have a1 := h9
  refine k_putF (q := 13) dX4_init_10 rfl fl_X4_9 rfl (by omega) hb rfl (fun _ => rfl) (fun _ => rfl) rfl (fun w h9 r9 => ?_)
  replace a1 := (r9 _ (by omega)).trans a1
  replace hF : Fr b (b + 2) w0 w := fun k hk => (r9 k (by omega)).trans (hF k hk)
  replace hb : w b = oO 4 [.ref (b + 1), .int 0] := h9
  refine st_return dX4_init_13 rfl ?_
  refine ⟨rfl, rfl, ⟨by omega, hb, fun i o ty len hi => ?_⟩, hF⟩
  match i, hi with
  | 0, hi => cases hi; exact ⟨_, a1, fun j _ => rfl⟩
  | 1, hi => cases hi
  | _ + 2, hi => cases hi
set_option maxRecDepth 100000 in
set_option maxHeartbeats 4000000 in
theorem c_X3_init {E : ev_E} {b : Nat} {w0 : ev_W} (hb : w0 b = oO 3 [.null, .null, .int 0]) (hlt : b + 3 < 1000) : Ct E mX3_init [.ref b] (b + 1) w0 (fun a m u => a = none ∧ m = b + 3 ∧ GR 3 layX3 2 z0T b (b + 3) u ∧ Fr b (b + 3) w0 u) := by
  refine Ct.of 0 (by decide) (Nat.le_of_ble_eq_true rfl) rfl ?_
  have hF : Fr b (b + 3) w0 w0 := Fr.rf
  refine st_aload_n (q := 1) dX3_init_0 rfl rfl rfl ?_
  refine st_objInit (q := 4) dX3_init_1 rfl ml_X3_3 jo_i jo_c (Nat.le_of_ble_eq_true rfl) (Nat.le_of_ble_eq_true rfl) (Nat.le_of_ble_eq_true rfl) ?_
  refine st_aload_n (q := 5) dX3_init_4 rfl rfl rfl ?_
  refine st_bipush (q := 7) dX3_init_5 rfl bp_6 ?_
  refine k_newI (q := 9) (N := 6) (cs' := (1, 6)) dX3_init_7 rfl (by decide) (by decide) (by decide) (by omega) rfl (Nat.le_of_ble_eq_true rfl) (Nat.le_of_ble_eq_true rfl) (fun w h9 r9 => ?_)
  replace hb := (r9 _ (by omega)).trans hb
  replace hF : Fr b (b + 3) w0 w := fun k hk => (r9 k (by omega)).trans (hF k hk)
  have a1 := h9
  refine k_putF (q := 12) dX3_init_9 rfl fl_X3_9 rfl (by omega) hb rfl (fun _ => rfl) (fun _ => rfl) rfl (fun w h9 r9 => ?_)
  replace a1 := (r9 _ (by omega)).trans a1
  replace hF : Fr b (b + 3) w0 w := fun k hk => (r9 k (by omega)).trans (hF k hk)
  replace hb : w b = oO 3 [.ref (b + 1), .null, .int 0] := h9
  refine st_aload_n (q := 13) dX3_init_12 rfl rfl rfl ?_
  refine st_bipush (q := 15) dX3_init_13 rfl bp_6 ?_
  refine k_newI (q := 17) (N := 6) (cs' := (2, 12)) dX3_init_15 rfl (by decide) (by decide) (by decide) (by omega) rfl (Nat.le_of_ble_eq_true rfl) (Nat.le_of_ble_eq_true rfl) (fun w h9 r9 => ?_)
  replace hb := (r9 _ (by omega)).trans hb
  replace a1 := (r9 _ (by omega)).trans a1
  replace hF : Fr b (b + 3) w0 w := fun k hk => (r9 k (by omega)).trans (hF k hk)
  have a2 := h9
  refine k_putF (q := 20) dX3_init_17 rfl fl_X3_15 rfl (by omega) hb rfl (fun _ => rfl) (fun _ => rfl) rfl (fun w h9 r9 => ?_)
  replace a1 := (r9 _ (by omega)).trans a1
  replace a2 := (r9 _ (by omega)).trans a2
  replace hF : Fr b (b + 3) w0 w := fun k hk => (r9 k (by omega)).trans (hF k hk)
  replace hb : w b = oO 3 [.ref (b + 1), .ref (b + 2), .int 0] := h9
  refine st_return dX3_init_20 rfl ?_
  refine ⟨rfl, rfl, ⟨by omega, hb, fun i o ty len hi => ?_⟩, hF⟩
  match i, hi with
  | 0, hi => cases hi; exact ⟨_, a1, fun j _ => rfl⟩
  | 1, hi => cases hi; exact ⟨_, a2, fun j _ => rfl⟩
  | 2, hi => cases hi
  | _ + 3, hi => cases hi
set_option maxRecDepth 100000 in
set_option maxHeartbeats 4000000 in
theorem c_X2_init {E : ev_E} {b : Nat} {w0 : ev_W} (hb : w0 b = oO 2 [.null, .int 0, .int 0, .int 0]) (hlt : b + 2 < 1000) : Ct E mX2_init [.ref b] (b + 1) w0 (fun a m u => a = none ∧ m = b + 2 ∧ GR 2 layX2 1 z0T b (b + 2) u ∧ Fr b (b + 2) w0 u) := by
  refine Ct.of 0 (by decide) (Nat.le_of_ble_eq_true rfl) rfl ?_
  have hF : Fr b (b + 2) w0 w0 := Fr.rf
  refine st_aload_n (q := 1) dX2_init_0 rfl rfl rfl ?_
  refine st_objInit (q := 4) dX2_init_1 rfl ml_X2_3 jo_i jo_c (Nat.le_of_ble_eq_true rfl) (Nat.le_of_ble_eq_true rfl) (Nat.le_of_ble_eq_true rfl) ?_
  refine st_aload_n (q := 5) dX2_init_4 rfl rfl rfl ?_
  refine st_bipush (q := 7) dX2_init_5 rfl bp_40 ?_
  refine k_newI (q := 9) (N := 40) (cs' := (1, 40)) dX2_init_7 rfl (by decide) (by decide) (by decide) (by omega) rfl (Nat.le_of_ble_eq_true rfl) (Nat.le_of_ble_eq_true rfl) (fun w h9 r9 => ?_)
  replace hb := (r9 _ (by omega)).trans hb
  replace hF : Fr b (b + 2) w0 w := fun k hk => (r9 k (by omega)).trans (hF k hk)
  have a1 := h9
  refine k_putF (q := 12) dX2_init_9 rfl fl_X2_9 rfl (by omega) hb rfl (fun _ => rfl) (fun _ => rfl) rfl (fun w h9 r9 => ?_)
  replace a1 := (r9 _ (by omega)).trans a1
  replace hF : Fr b (b + 2) w0 w := fun k hk => (r9 k (by omega)).trans (hF k hk)
  replace hb : w b = oO 2 [.ref (b + 1), .int 0, .int 0, .int 0] := h9
  refine st_return dX2_init_12 rfl ?_
  refine ⟨rfl, rfl, ⟨by omega, hb, fun i o ty len hi => ?_⟩, hF⟩
  match i, hi with
  | 0, hi => cases hi; exact ⟨_, a1, fun j _ => rfl⟩
  | 1, hi => cases hi
  | 2, hi => cases hi
  | 3, hi => cases hi
  | _ + 4, hi => cases hi
set_option maxRecDepth 100000 in
set_option maxHeartbeats 4000000 in
theorem c_X0_init {E : ev_E} {b : Nat} {w0 : ev_W} (hb : w0 b = oO 0 [.null, .int 0]) (hlt : b + 2 < 1000) : Ct E mX0_init [.ref b] (b + 1) w0 (fun a m u => a = none ∧ m = b + 2 ∧ GR 0 layX0 1 z0T b (b + 2) u ∧ Fr b (b + 2) w0 u) := by
  refine Ct.of 0 (by decide) (Nat.le_of_ble_eq_true rfl) rfl ?_
  have hF : Fr b (b + 2) w0 w0 := Fr.rf
  refine st_aload_n (q := 1) dX0_init_0 rfl rfl rfl ?_
  refine st_objInit (q := 4) dX0_init_1 rfl ml_X0_3 jo_i jo_c (Nat.le_of_ble_eq_true rfl) (Nat.le_of_ble_eq_true rfl) (Nat.le_of_ble_eq_true rfl) ?_
  refine st_aload_n (q := 5) dX0_init_4 rfl rfl rfl ?_
  refine st_sipush (q := 8) dX0_init_5 rfl sp_651 ?_
  refine k_newI (q := 10) (N := 651) (cs' := (1, 651)) dX0_init_8 rfl (by decide) (by decide) (by decide) (by omega) rfl (Nat.le_of_ble_eq_true rfl) (Nat.le_of_ble_eq_true rfl) (fun w h9 r9 => ?_)
  replace hb := (r9 _ (by omega)).trans hb
  replace hF : Fr b (b + 2) w0 w := fun k hk => (r9 k (by omega)).trans (hF k hk)
  have a1 := h9
  refine k_putF (q := 13) dX0_init_10 rfl fl_X0_11 rfl (by omega) hb rfl (fun _ => rfl) (fun _ => rfl) rfl (fun w h9 r9 => ?_)
  replace a1 := (r9 _ (by omega)).trans a1
  replace hF : Fr b (b + 2) w0 w := fun k hk => (r9 k (by omega)).trans (hF k hk)
  replace hb : w b = oO 0 [.ref (b + 1), .int 0] := h9
  refine st_return dX0_init_13 rfl ?_
  refine ⟨rfl, rfl, ⟨by omega, hb, fun i o ty len hi => ?_⟩, hF⟩
  match i, hi with
  | 0, hi => cases hi; exact ⟨_, a1, fun j _ => rfl⟩
  | 1, hi => cases hi
  | _ + 2, hi => cases hi
set_option maxRecDepth 100000 in
set_option maxHeartbeats 4000000 in
theorem c_X7_init {E : ev_E} {b : Nat} {w0 : ev_W} (hb : w0 b = oO 7 [.null, .int 0, .int 0, .null, .int 0, .int 0, .int 0, .int 0, .int 0, .null, .int 0, .int 0, .int 0, .int 0, .int 0, .int 0, .int 0, .int 0, .null, .null, .int 0, .null, .int 0, .null, .null, .null, .null, .null, .int 0]) (hlt : b + 12 < 1000) : Ct E mX7_init [.ref b] (b + 1) w0 (fun a m u => a = none ∧ m = b + 12 ∧ GR 7 layX7 11 m7T b (b + 12) u ∧ Fr b (b + 12) w0 u) := by
  refine Ct.of 0 (by decide) (Nat.le_of_ble_eq_true rfl) rfl ?_
  have hF : Fr b (b + 12) w0 w0 := Fr.rf
  refine st_aload_n (q := 1) dX7_init_0 rfl rfl rfl ?_
  refine st_objInit (q := 4) dX7_init_1 rfl ml_X7_1 jo_i jo_c (Nat.le_of_ble_eq_true rfl) (Nat.le_of_ble_eq_true rfl) (Nat.le_of_ble_eq_true rfl) ?_
  refine st_aload_n (q := 5) dX7_init_4 rfl rfl rfl ?_
  refine st_sipush (q := 8) dX7_init_5 rfl sp_426 ?_
  refine k_newI (q := 10) (N := 426) (cs' := (1, 426)) dX7_init_8 rfl (by decide) (by decide) (by decide) (by omega) rfl (Nat.le_of_ble_eq_true rfl) (Nat.le_of_ble_eq_true rfl) (fun w h9 r9 => ?_)
  replace hb := (r9 _ (by omega)).trans hb
  replace hF : Fr b (b + 12) w0 w := fun k hk => (r9 k (by omega)).trans (hF k hk)
  have a1 := h9
  refine k_putF (q := 13) dX7_init_10 rfl fl_X7_7 rfl (by omega) hb rfl (fun _ => rfl) (fun _ => rfl) rfl (fun w h9 r9 => ?_)
  replace a1 := (r9 _ (by omega)).trans a1
  replace hF : Fr b (b + 12) w0 w := fun k hk => (r9 k (by omega)).trans (hF k hk)
  replace hb : w b = oO 7 [.ref (b + 1), .int 0, .int 0, .null, .int 0, .int 0, .int 0, .int 0, .int 0, .null, .int 0, .int 0, .int 0, .int 0, .int 0, .int 0, .int 0, .int 0, .null, .null, .int 0, .null, .int 0, .null, .null, .null, .null, .null, .int 0] := h9
  refine st_aload_n (q := 14) dX7_init_13 rfl rfl rfl ?_
  refine st_bipush (q := 16) dX7_init_14 rfl bp_71 ?_
  refine k_newI (q := 18) (N := 71) (cs' := (2, 497)) dX7_init_16 rfl (by decide) (by decide) (by decide) (by omega) rfl (Nat.le_of_ble_eq_true rfl) (Nat.le_of_ble_eq_true rfl) (fun w h9 r9 => ?_)
  replace hb := (r9 _ (by omega)).trans hb
  replace a1 := (r9 _ (by omega)).trans a1
  replace hF : Fr b (b + 12) w0 w := fun k hk => (r9 k (by omega)).trans (hF k hk)
  have a2 := h9
  refine k_putF (q := 21) dX7_init_18 rfl fl_X7_13 rfl (by omega) hb rfl (fun _ => rfl) (fun _ => rfl) rfl (fun w h9 r9 => ?_)
  replace a1 := (r9 _ (by omega)).trans a1
  replace a2 := (r9 _ (by omega)).trans a2
  replace hF : Fr b (b + 12) w0 w := fun k hk => (r9 k (by omega)).trans (hF k hk)
  replace hb : w b = oO 7 [.ref (b + 1), .int 0, .int 0, .ref (b + 2), .int 0, .int 0, .int 0, .int 0, .int 0, .null, .int 0, .int 0, .int 0, .int 0, .int 0, .int 0, .int 0, .int 0, .null, .null, .int 0, .null, .int 0, .null, .null, .null, .null, .null, .int 0] := h9
  refine st_aload_n (q := 22) dX7_init_21 rfl rfl rfl ?_
  refine st_sipush (q := 25) dX7_init_22 rfl sp_160 ?_
  refine k_newI (q := 27) (N := 160) (cs' := (3, 657)) dX7_init_25 rfl (by decide) (by decide) (by decide) (by omega) rfl (Nat.le_of_ble_eq_true rfl) (Nat.le_of_ble_eq_true rfl) (fun w h9 r9 => ?_)
  replace hb := (r9 _ (by omega)).trans hb
  replace a1 := (r9 _ (by omega)).trans a1
  replace a2 := (r9 _ (by omega)).trans a2
  replace hF : Fr b (b + 12) w0 w := fun k hk => (r9 k (by omega)).trans (hF k hk)
  have a3 := h9
  refine k_putF (q := 30) dX7_init_27 rfl fl_X7_16 rfl (by omega) hb rfl (fun _ => rfl) (fun _ => rfl) rfl (fun w h9 r9 => ?_)
  replace a1 := (r9 _ (by omega)).trans a1
  replace a2 := (r9 _ (by omega)).trans a2
  replace a3 := (r9 _ (by omega)).trans a3
  replace hF : Fr b (b + 12) w0 w := fun k hk => (r9 k (by omega)).trans (hF k hk)
  replace hb : w b = oO 7 [.ref (b + 1), .int 0, .int 0, .ref (b + 2), .int 0, .int 0, .int 0, .int 0, .int 0, .ref (b + 3), .int 0, .int 0, .int 0, .int 0, .int 0, .int 0, .int 0, .int 0, .null, .null, .int 0, .null, .int 0, .null, .null, .null, .null, .null, .int 0] := h9
  refine st_aload_n (q := 31) dX7_init_30 rfl rfl rfl ?_
  refine st_bipush (q := 33) dX7_init_31 rfl bp_9 ?_
  refine k_newI (q := 35) (N := 9) (cs' := (4, 666)) dX7_init_33 rfl (by decide) (by decide) (by decide) (by omega) rfl (Nat.le_of_ble_eq_true rfl) (Nat.le_of_ble_eq_true rfl) (fun w h9 r9 => ?_)
  replace hb := (r9 _ (by omega)).trans hb
  replace a1 := (r9 _ (by omega)).trans a1
  replace a2 := (r9 _ (by omega)).trans a2
  replace a3 := (r9 _ (by omega)).trans a3
  replace hF : Fr b (b + 12) w0 w := fun k hk => (r9 k (by omega)).trans (hF k hk)
  have a4 := h9
  refine st_dup (q := 36) dX7_init_35 rfl rfl ?_
  refine st_iconst (q := 37) dX7_init_36 rfl ic_0 ?_
  refine st_iconst (q := 38) dX7_init_37 rfl ic_0 ?_
  refine k_ast (q := 39) (j := 0) dX7_init_38 rfl (by omega) a4 (ev_ix_nI (j := 0) (by decide) (by decide)) (fun w h9 r9 => ?_)
  replace hb := (r9 _ (by omega)).trans hb
  replace a1 := (r9 _ (by omega)).trans a1
  replace a2 := (r9 _ (by omega)).trans a2
  replace a3 := (r9 _ (by omega)).trans a3
  replace hF : Fr b (b + 12) w0 w := fun k hk => (r9 k (by omega)).trans (hF k hk)
  replace a4 := h9
  refine st_dup (q := 40) dX7_init_39 rfl rfl ?_
  refine st_iconst (q := 41) dX7_init_40 rfl ic_1 ?_
  refine st_iconst (q := 42) dX7_init_41 rfl ic_5 ?_
  refine k_ast (q := 43) (j := 1) dX7_init_42 rfl (by omega) a4 (ev_ix_nI (j := 1) (by decide) (by decide)) (fun w h9 r9 => ?_)
  replace hb := (r9 _ (by omega)).trans hb
  replace a1 := (r9 _ (by omega)).trans a1
  replace a2 := (r9 _ (by omega)).trans a2
  replace a3 := (r9 _ (by omega)).trans a3
  replace hF : Fr b (b + 12) w0 w := fun k hk => (r9 k (by omega)).trans (hF k hk)
  replace a4 := h9
  refine st_dup (q := 44) dX7_init_43 rfl rfl ?_
  refine st_iconst (q := 45) dX7_init_44 rfl ic_2 ?_
  refine st_bipush (q := 47) dX7_init_45 rfl bp_10 ?_
  refine k_ast (q := 48) (j := 2) dX7_init_47 rfl (by omega) a4 (ev_ix_nI (j := 2) (by decide) (by decide)) (fun w h9 r9 => ?_)
  replace hb := (r9 _ (by omega)).trans hb
  replace a1 := (r9 _ (by omega)).trans a1
  replace a2 := (r9 _ (by omega)).trans a2
  replace a3 := (r9 _ (by omega)).trans a3
  replace hF : Fr b (b + 12) w0 w := fun k hk => (r9 k (by omega)).trans (hF k hk)
  replace a4 := h9
  refine st_dup (q := 49) dX7_init_48 rfl rfl ?_
  refine st_iconst (q := 50) dX7_init_49 rfl ic_3 ?_
  refine st_bipush (q := 52) dX7_init_50 rfl bp_16 ?_
  refine k_ast (q := 53) (j := 3) dX7_init_52 rfl (by omega) a4 (ev_ix_nI (j := 3) (by decide) (by decide)) (fun w h9 r9 => ?_)
  replace hb := (r9 _ (by omega)).trans hb
  replace a1 := (r9 _ (by omega)).trans a1
  replace a2 := (r9 _ (by omega)).trans a2
  replace a3 := (r9 _ (by omega)).trans a3
  replace hF : Fr b (b + 12) w0 w := fun k hk => (r9 k (by omega)).trans (hF k hk)
  replace a4 := h9
  refine st_dup (q := 54) dX7_init_53 rfl rfl ?_
  refine st_iconst (q := 55) dX7_init_54 rfl ic_4 ?_
  refine st_bipush (q := 57) dX7_init_55 rfl bp_20 ?_
  refine k_ast (q := 58) (j := 4) dX7_init_57 rfl (by omega) a4 (ev_ix_nI (j := 4) (by decide) (by decide)) (fun w h9 r9 => ?_)
  replace hb := (r9 _ (by omega)).trans hb
  replace a1 := (r9 _ (by omega)).trans a1
  replace a2 := (r9 _ (by omega)).trans a2
  replace a3 := (r9 _ (by omega)).trans a3
  replace hF : Fr b (b + 12) w0 w := fun k hk => (r9 k (by omega)).trans (hF k hk)
  replace a4 := h9
  refine st_dup (q := 59) dX7_init_58 rfl rfl ?_
  refine st_iconst (q := 60) dX7_init_59 rfl ic_5 ?_
  refine st_bipush (q := 62) dX7_init_60 rfl bp_25 ?_
  refine k_ast (q := 63) (j := 5) dX7_init_62 rfl (by omega) a4 (ev_ix_nI (j := 5) (by decide) (by decide)) (fun w h9 r9 => ?_)
  replace hb := (r9 _ (by omega)).trans hb
  replace a1 := (r9 _ (by omega)).trans a1
  replace a2 := (r9 _ (by omega)).trans a2
  replace a3 := (r9 _ (by omega)).trans a3
  replace hF : Fr b (b + 12) w0 w := fun k hk => (r9 k (by omega)).trans (hF k hk)
  replace a4 := h9
  refine st_dup (q := 64) dX7_init_63 rfl rfl ?_
  refine st_bipush (q := 66) dX7_init_64 rfl bp_6 ?_
  refine st_bipush (q := 68) dX7_init_66 rfl bp_29 ?_
  refine k_ast (q := 69) (j := 6) dX7_init_68 rfl (by omega) a4 (ev_ix_nI (j := 6) (by decide) (by decide)) (fun w h9 r9 => ?_)
  replace hb := (r9 _ (by omega)).trans hb
  replace a1 := (r9 _ (by omega)).trans a1
  replace a2 := (r9 _ (by omega)).trans a2
  replace a3 := (r9 _ (by omega)).trans a3
  replace hF : Fr b (b + 12) w0 w := fun k hk => (r9 k (by omega)).trans (hF k hk)
  replace a4 := h9
  refine st_dup (q := 70) dX7_init_69 rfl rfl ?_
  refine st_bipush (q := 72) dX7_init_70 rfl bp_7 ?_
  refine st_bipush (q := 74) dX7_init_72 rfl bp_33 ?_
  refine k_ast (q := 75) (j := 7) dX7_init_74 rfl (by omega) a4 (ev_ix_nI (j := 7) (by decide) (by decide)) (fun w h9 r9 => ?_)
  replace hb := (r9 _ (by omega)).trans hb
  replace a1 := (r9 _ (by omega)).trans a1
  replace a2 := (r9 _ (by omega)).trans a2
  replace a3 := (r9 _ (by omega)).trans a3
  replace hF : Fr b (b + 12) w0 w := fun k hk => (r9 k (by omega)).trans (hF k hk)
  replace a4 := h9
  refine st_dup (q := 76) dX7_init_75 rfl rfl ?_
  refine st_bipush (q := 78) dX7_init_76 rfl bp_8 ?_
  refine st_bipush (q := 80) dX7_init_78 rfl bp_38 ?_
  refine k_ast (q := 81) (j := 8) dX7_init_80 rfl (by omega) a4 (ev_ix_nI (j := 8) (by decide) (by decide)) (fun w h9 r9 => ?_)
  replace hb := (r9 _ (by omega)).trans hb
  replace a1 := (r9 _ (by omega)).trans a1
  replace a2 := (r9 _ (by omega)).trans a2
  replace a3 := (r9 _ (by omega)).trans a3
  replace hF : Fr b (b + 12) w0 w := fun k hk => (r9 k (by omega)).trans (hF k hk)
  replace a4 := h9
  refine k_putF (q := 84) dX7_init_81 rfl fl_X7_19 rfl (by omega) hb rfl (fun _ => rfl) (fun _ => rfl) rfl (fun w h9 r9 => ?_)
  replace a1 := (r9 _ (by omega)).trans a1
  replace a2 := (r9 _ (by omega)).trans a2
  replace a3 := (r9 _ (by omega)).trans a3
  replace a4 := (r9 _ (by omega)).trans a4
  replace hF : Fr b (b + 12) w0 w := fun k hk => (r9 k (by omega)).trans (hF k hk)
  replace hb : w b = oO 7 [.ref (b + 1), .int 0, .int 0, .ref (b + 2), .int 0, .int 0, .int 0, .int 0, .int 0, .ref (b + 3), .int 0, .int 0, .int 0, .int 0, .int 0, .int 0, .int 0, .int 0, .ref (b + 4), .null, .int 0, .null, .int 0, .null, .null, .null, .null, .null, .int 0] := h9
  refine st_aload_n (q := 85) dX7_init_84 rfl rfl rfl ?_
  refine st_bipush (q := 87) dX7_init_85 rfl bp_38 ?_
  refine k_newI (q := 89) (N := 38) (cs' := (5, 704)) dX7_init_87 rfl (by decide) (by decide) (by decide) (by omega) rfl (Nat.le_of_ble_eq_true rfl) (Nat.le_of_ble_eq_true rfl) (fun w h9 r9 => ?_)
  replace hb := (r9 _ (by omega)).trans hb
  replace a1 := (r9 _ (by omega)).trans a1
  replace a2 := (r9 _ (by omega)).trans a2
  replace a3 := (r9 _ (by omega)).trans a3
  replace a4 := (r9 _ (by omega)).trans a4
  replace hF : Fr b (b + 12) w0 w := fun k hk => (r9 k (by omega)).trans (hF k hk)
  have a5 := h9
  refine st_dup (q := 90) dX7_init_89 rfl rfl ?_
  refine st_iconst (q := 91) dX7_init_90 rfl ic_0 ?_
  refine st_bipush (q := 93) dX7_init_91 rfl bp_112 ?_
  refine k_ast (q := 94) (j := 0) dX7_init_93 rfl (by omega) a5 (ev_ix_nI (j := 0) (by decide) (by decide)) (fun w h9 r9 => ?_)
  replace hb := (r9 _ (by omega)).trans hb
  replace a1 := (r9 _ (by omega)).trans a1
  replace a2 := (r9 _ (by omega)).trans a2
  replace a3 := (r9 _ (by omega)).trans a3
  replace a4 := (r9 _ (by omega)).trans a4
  replace hF : Fr b (b + 12) w0 w := fun k hk => (r9 k (by omega)).trans (hF k hk)
  replace a5 := h9
  refine st_dup (q := 95) dX7_init_94 rfl rfl ?_
  refine st_iconst (q := 96) dX7_init_95 rfl ic_1 ?_
  refine st_bipush (q := 98) dX7_init_96 rfl bp_108 ?_
  refine k_ast (q := 99) (j := 1) dX7_init_98 rfl (by omega) a5 (ev_ix_nI (j := 1) (by decide) (by decide)) (fun w h9 r9 => ?_)
  replace hb := (r9 _ (by omega)).trans hb
  replace a1 := (r9 _ (by omega)).trans a1
  replace a2 := (r9 _ (by omega)).trans a2
  replace a3 := (r9 _ (by omega)).trans a3
  replace a4 := (r9 _ (by omega)).trans a4
  replace hF : Fr b (b + 12) w0 w := fun k hk => (r9 k (by omega)).trans (hF k hk)
  replace a5 := h9
  refine st_dup (q := 100) dX7_init_99 rfl rfl ?_
  refine st_iconst (q := 101) dX7_init_100 rfl ic_2 ?_
  refine st_bipush (q := 103) dX7_init_101 rfl bp_97 ?_
  refine k_ast (q := 104) (j := 2) dX7_init_103 rfl (by omega) a5 (ev_ix_nI (j := 2) (by decide) (by decide)) (fun w h9 r9 => ?_)
  replace hb := (r9 _ (by omega)).trans hb
  replace a1 := (r9 _ (by omega)).trans a1
  replace a2 := (r9 _ (by omega)).trans a2
  replace a3 := (r9 _ (by omega)).trans a3
  replace a4 := (r9 _ (by omega)).trans a4
  replace hF : Fr b (b + 12) w0 w := fun k hk => (r9 k (by omega)).trans (hF k hk)
  replace a5 := h9
  refine st_dup (q := 105) dX7_init_104 rfl rfl ?_
  refine st_iconst (q := 106) dX7_init_105 rfl ic_3 ?_
  refine st_bipush (q := 108) dX7_init_106 rfl bp_105 ?_
  refine k_ast (q := 109) (j := 3) dX7_init_108 rfl (by omega) a5 (ev_ix_nI (j := 3) (by decide) (by decide)) (fun w h9 r9 => ?_)
  replace hb := (r9 _ (by omega)).trans hb
  replace a1 := (r9 _ (by omega)).trans a1
  replace a2 := (r9 _ (by omega)).trans a2
  replace a3 := (r9 _ (by omega)).trans a3
  replace a4 := (r9 _ (by omega)).trans a4
  replace hF : Fr b (b + 12) w0 w := fun k hk => (r9 k (by omega)).trans (hF k hk)
  replace a5 := h9
  refine st_dup (q := 110) dX7_init_109 rfl rfl ?_
  refine st_iconst (q := 111) dX7_init_110 rfl ic_4 ?_
  refine st_bipush (q := 113) dX7_init_111 rfl bp_110 ?_
  refine k_ast (q := 114) (j := 4) dX7_init_113 rfl (by omega) a5 (ev_ix_nI (j := 4) (by decide) (by decide)) (fun w h9 r9 => ?_)
  replace hb := (r9 _ (by omega)).trans hb
  replace a1 := (r9 _ (by omega)).trans a1
  replace a2 := (r9 _ (by omega)).trans a2
  replace a3 := (r9 _ (by omega)).trans a3
  replace a4 := (r9 _ (by omega)).trans a4
  replace hF : Fr b (b + 12) w0 w := fun k hk => (r9 k (by omega)).trans (hF k hk)
  replace a5 := h9
  refine st_dup (q := 115) dX7_init_114 rfl rfl ?_
  refine st_iconst (q := 116) dX7_init_115 rfl ic_5 ?_
  refine st_bipush (q := 118) dX7_init_116 rfl bp_112 ?_
  refine k_ast (q := 119) (j := 5) dX7_init_118 rfl (by omega) a5 (ev_ix_nI (j := 5) (by decide) (by decide)) (fun w h9 r9 => ?_)
  replace hb := (r9 _ (by omega)).trans hb
  replace a1 := (r9 _ (by omega)).trans a1
  replace a2 := (r9 _ (by omega)).trans a2
  replace a3 := (r9 _ (by omega)).trans a3
  replace a4 := (r9 _ (by omega)).trans a4
  replace hF : Fr b (b + 12) w0 w := fun k hk => (r9 k (by omega)).trans (hF k hk)
  replace a5 := h9
  refine st_dup (q := 120) dX7_init_119 rfl rfl ?_
  refine st_bipush (q := 122) dX7_init_120 rfl bp_6 ?_
  refine st_bipush (q := 124) dX7_init_122 rfl bp_105 ?_
  refine k_ast (q := 125) (j := 6) dX7_init_124 rfl (by omega) a5 (ev_ix_nI (j := 6) (by decide) (by decide)) (fun w h9 r9 => ?_)
  replace hb := (r9 _ (by omega)).trans hb
  replace a1 := (r9 _ (by omega)).trans a1
  replace a2 := (r9 _ (by omega)).trans a2
  replace a3 := (r9 _ (by omega)).trans a3
  replace a4 := (r9 _ (by omega)).trans a4
  replace hF : Fr b (b + 12) w0 w := fun k hk => (r9 k (by omega)).trans (hF k hk)
  replace a5 := h9
  refine st_dup (q := 126) dX7_init_125 rfl rfl ?_
  refine st_bipush (q := 128) dX7_init_126 rfl bp_7 ?_
  refine st_bipush (q := 130) dX7_init_128 rfl bp_97 ?_
  refine k_ast (q := 131) (j := 7) dX7_init_130 rfl (by omega) a5 (ev_ix_nI (j := 7) (by decide) (by decide)) (fun w h9 r9 => ?_)
  replace hb := (r9 _ (by omega)).trans hb
  replace a1 := (r9 _ (by omega)).trans a1
  replace a2 := (r9 _ (by omega)).trans a2
  replace a3 := (r9 _ (by omega)).trans a3
  replace a4 := (r9 _ (by omega)).trans a4
  replace hF : Fr b (b + 12) w0 w := fun k hk => (r9 k (by omega)).trans (hF k hk)
  replace a5 := h9
  refine st_dup (q := 132) dX7_init_131 rfl rfl ?_
  refine st_bipush (q := 134) dX7_init_132 rfl bp_8 ?_
  refine st_bipush (q := 136) dX7_init_134 rfl bp_110 ?_
  refine k_ast (q := 137) (j := 8) dX7_init_136 rfl (by omega) a5 (ev_ix_nI (j := 8) (by decide) (by decide)) (fun w h9 r9 => ?_)
  replace hb := (r9 _ (by omega)).trans hb
  replace a1 := (r9 _ (by omega)).trans a1
  replace a2 := (r9 _ (by omega)).trans a2
  replace a3 := (r9 _ (by omega)).trans a3
  replace a4 := (r9 _ (by omega)).trans a4
  replace hF : Fr b (b + 12) w0 w := fun k hk => (r9 k (by omega)).trans (hF k hk)
  replace a5 := h9
  refine st_dup (q := 138) dX7_init_137 rfl rfl ?_
  refine st_bipush (q := 140) dX7_init_138 rfl bp_9 ?_
  refine st_bipush (q := 142) dX7_init_140 rfl bp_111 ?_
  refine k_ast (q := 143) (j := 9) dX7_init_142 rfl (by omega) a5 (ev_ix_nI (j := 9) (by decide) (by decide)) (fun w h9 r9 => ?_)
  replace hb := (r9 _ (by omega)).trans hb
  replace a1 := (r9 _ (by omega)).trans a1
  replace a2 := (r9 _ (by omega)).trans a2
  replace a3 := (r9 _ (by omega)).trans a3
  replace a4 := (r9 _ (by omega)).trans a4
  replace hF : Fr b (b + 12) w0 w := fun k hk => (r9 k (by omega)).trans (hF k hk)
  replace a5 := h9
  refine st_dup (q := 144) dX7_init_143 rfl rfl ?_
  refine st_bipush (q := 146) dX7_init_144 rfl bp_10 ?_
  refine st_bipush (q := 148) dX7_init_146 rfl bp_102 ?_
  refine k_ast (q := 149) (j := 10) dX7_init_148 rfl (by omega) a5 (ev_ix_nI (j := 10) (by decide) (by decide)) (fun w h9 r9 => ?_)
  replace hb := (r9 _ (by omega)).trans hb
  replace a1 := (r9 _ (by omega)).trans a1
  replace a2 := (r9 _ (by omega)).trans a2
  replace a3 := (r9 _ (by omega)).trans a3
  replace a4 := (r9 _ (by omega)).trans a4
  replace hF : Fr b (b + 12) w0 w := fun k hk => (r9 k (by omega)).trans (hF k hk)
  replace a5 := h9
  refine st_dup (q := 150) dX7_init_149 rfl rfl ?_
  refine st_bipush (q := 152) dX7_init_150 rfl bp_11 ?_
  refine st_bipush (q := 154) dX7_init_152 rfl bp_97 ?_
  refine k_ast (q := 155) (j := 11) dX7_init_154 rfl (by omega) a5 (ev_ix_nI (j := 11) (by decide) (by decide)) (fun w h9 r9 => ?_)
  replace hb := (r9 _ (by omega)).trans hb
  replace a1 := (r9 _ (by omega)).trans a1
  replace a2 := (r9 _ (by omega)).trans a2
  replace a3 := (r9 _ (by omega)).trans a3
  replace a4 := (r9 _ (by omega)).trans a4
  replace hF : Fr b (b + 12) w0 w := fun k hk => (r9 k (by omega)).trans (hF k hk)
  replace a5 := h9
  refine st_dup (q := 156) dX7_init_155 rfl rfl ?_
  refine st_bipush (q := 158) dX7_init_156 rfl bp_12 ?_
  refine st_bipush (q := 160) dX7_init_158 rfl bp_116 ?_
  refine k_ast (q := 161) (j := 12) dX7_init_160 rfl (by omega) a5 (ev_ix_nI (j := 12) (by decide) (by decide)) (fun w h9 r9 => ?_)
  replace hb := (r9 _ (by omega)).trans hb
  replace a1 := (r9 _ (by omega)).trans a1
  replace a2 := (r9 _ (by omega)).trans a2
  replace a3 := (r9 _ (by omega)).trans a3
  replace a4 := (r9 _ (by omega)).trans a4
  replace hF : Fr b (b + 12) w0 w := fun k hk => (r9 k (by omega)).trans (hF k hk)
  replace a5 := h9
  refine st_dup (q := 162) dX7_init_161 rfl rfl ?_
  refine st_bipush (q := 164) dX7_init_162 rfl bp_13 ?_
  refine st_bipush (q := 166) dX7_init_164 rfl bp_104 ?_
  refine k_ast (q := 167) (j := 13) dX7_init_166 rfl (by omega) a5 (ev_ix_nI (j := 13) (by decide) (by decide)) (fun w h9 r9 => ?_)
  replace hb := (r9 _ (by omega)).trans hb
  replace a1 := (r9 _ (by omega)).trans a1
  replace a2 := (r9 _ (by omega)).trans a2
  replace a3 := (r9 _ (by omega)).trans a3
  replace a4 := (r9 _ (by omega)).trans a4
  replace hF : Fr b (b + 12) w0 w := fun k hk => (r9 k (by omega)).trans (hF k hk)
  replace a5 := h9
  refine st_dup (q := 168) dX7_init_167 rfl rfl ?_
  refine st_bipush (q := 170) dX7_init_168 rfl bp_14 ?_
  refine st_bipush (q := 172) dX7_init_170 rfl bp_101 ?_
  refine k_ast (q := 173) (j := 14) dX7_init_172 rfl (by omega) a5 (ev_ix_nI (j := 14) (by decide) (by decide)) (fun w h9 r9 => ?_)
  replace hb := (r9 _ (by omega)).trans hb
  replace a1 := (r9 _ (by omega)).trans a1
  replace a2 := (r9 _ (by omega)).trans a2
  replace a3 := (r9 _ (by omega)).trans a3
  replace a4 := (r9 _ (by omega)).trans a4
  replace hF : Fr b (b + 12) w0 w := fun k hk => (r9 k (by omega)).trans (hF k hk)
  replace a5 := h9
  refine st_dup (q := 174) dX7_init_173 rfl rfl ?_
  refine st_bipush (q := 176) dX7_init_174 rfl bp_15 ?_
  refine st_bipush (q := 178) dX7_init_176 rfl bp_114 ?_
  refine k_ast (q := 179) (j := 15) dX7_init_178 rfl (by omega) a5 (ev_ix_nI (j := 15) (by decide) (by decide)) (fun w h9 r9 => ?_)
  replace hb := (r9 _ (by omega)).trans hb
  replace a1 := (r9 _ (by omega)).trans a1
  replace a2 := (r9 _ (by omega)).trans a2
  replace a3 := (r9 _ (by omega)).trans a3
  replace a4 := (r9 _ (by omega)).trans a4
  replace hF : Fr b (b + 12) w0 w := fun k hk => (r9 k (by omega)).trans (hF k hk)
  replace a5 := h9
  refine st_dup (q := 180) dX7_init_179 rfl rfl ?_
  refine st_bipush (q := 182) dX7_init_180 rfl bp_16 ?_
  refine st_bipush (q := 184) dX7_init_182 rfl bp_115 ?_
  refine k_ast (q := 185) (j := 16) dX7_init_184 rfl (by omega) a5 (ev_ix_nI (j := 16) (by decide) (by decide)) (fun w h9 r9 => ?_)
  replace hb := (r9 _ (by omega)).trans hb
  replace a1 := (r9 _ (by omega)).trans a1
  replace a2 := (r9 _ (by omega)).trans a2
  replace a3 := (r9 _ (by omega)).trans a3
  replace a4 := (r9 _ (by omega)).trans a4
  replace hF : Fr b (b + 12) w0 w := fun k hk => (r9 k (by omega)).trans (hF k hk)
  replace a5 := h9
  refine st_dup (q := 186) dX7_init_185 rfl rfl ?_
  refine st_bipush (q := 188) dX7_init_186 rfl bp_17 ?_
  refine st_bipush (q := 190) dX7_init_188 rfl bp_101 ?_
  refine k_ast (q := 191) (j := 17) dX7_init_190 rfl (by omega) a5 (ev_ix_nI (j := 17) (by decide) (by decide)) (fun w h9 r9 => ?_)
  replace hb := (r9 _ (by omega)).trans hb
  replace a1 := (r9 _ (by omega)).trans a1
  replace a2 := (r9 _ (by omega)).trans a2
  replace a3 := (r9 _ (by omega)).trans a3
  replace a4 := (r9 _ (by omega)).trans a4
  replace hF : Fr b (b + 12) w0 w := fun k hk => (r9 k (by omega)).trans (hF k hk)
  replace a5 := h9
  refine st_dup (q := 192) dX7_init_191 rfl rfl ?_
  refine st_bipush (q := 194) dX7_init_192 rfl bp_18 ?_
  refine st_bipush (q := 196) dX7_init_194 rfl bp_108 ?_
  refine k_ast (q := 197) (j := 18) dX7_init_196 rfl (by omega) a5 (ev_ix_nI (j := 18) (by decide) (by decide)) (fun w h9 r9 => ?_)
  replace hb := (r9 _ (by omega)).trans hb
  replace a1 := (r9 _ (by omega)).trans a1
  replace a2 := (r9 _ (by omega)).trans a2
  replace a3 := (r9 _ (by omega)).trans a3
  replace a4 := (r9 _ (by omega)).trans a4
  replace hF : Fr b (b + 12) w0 w := fun k hk => (r9 k (by omega)).trans (hF k hk)
  replace a5 := h9
  refine st_dup (q := 198) dX7_init_197 rfl rfl ?_
  refine st_bipush (q := 200) dX7_init_198 rfl bp_19 ?_
  refine st_bipush (q := 202) dX7_init_200 rfl bp_102 ?_
  refine k_ast (q := 203) (j := 19) dX7_init_202 rfl (by omega) a5 (ev_ix_nI (j := 19) (by decide) (by decide)) (fun w h9 r9 => ?_)
  replace hb := (r9 _ (by omega)).trans hb
  replace a1 := (r9 _ (by omega)).trans a1
  replace a2 := (r9 _ (by omega)).trans a2
  replace a3 := (r9 _ (by omega)).trans a3
  replace a4 := (r9 _ (by omega)).trans a4
  replace hF : Fr b (b + 12) w0 w := fun k hk => (r9 k (by omega)).trans (hF k hk)
  replace a5 := h9
  refine st_dup (q := 204) dX7_init_203 rfl rfl ?_
  refine st_bipush (q := 206) dX7_init_204 rfl bp_20 ?_
  refine st_bipush (q := 208) dX7_init_206 rfl bp_104 ?_
  refine k_ast (q := 209) (j := 20) dX7_init_208 rfl (by omega) a5 (ev_ix_nI (j := 20) (by decide) (by decide)) (fun w h9 r9 => ?_)
  replace hb := (r9 _ (by omega)).trans hb
  replace a1 := (r9 _ (by omega)).trans a1
  replace a2 := (r9 _ (by omega)).trans a2
  replace a3 := (r9 _ (by omega)).trans a3
  replace a4 := (r9 _ (by omega)).trans a4
  replace hF : Fr b (b + 12) w0 w := fun k hk => (r9 k (by omega)).trans (hF k hk)
  replace a5 := h9
  refine st_dup (q := 210) dX7_init_209 rfl rfl ?_
  refine st_bipush (q := 212) dX7_init_210 rfl bp_21 ?_
  refine st_bipush (q := 214) dX7_init_212 rfl bp_111 ?_
  refine k_ast (q := 215) (j := 21) dX7_init_214 rfl (by omega) a5 (ev_ix_nI (j := 21) (by decide) (by decide)) (fun w h9 r9 => ?_)
  replace hb := (r9 _ (by omega)).trans hb
  replace a1 := (r9 _ (by omega)).trans a1
  replace a2 := (r9 _ (by omega)).trans a2
  replace a3 := (r9 _ (by omega)).trans a3
  replace a4 := (r9 _ (by omega)).trans a4
  replace hF : Fr b (b + 12) w0 w := fun k hk => (r9 k (by omega)).trans (hF k hk)
  replace a5 := h9
  refine st_dup (q := 216) dX7_init_215 rfl rfl ?_
  refine st_bipush (q := 218) dX7_init_216 rfl bp_22 ?_
  refine st_bipush (q := 220) dX7_init_218 rfl bp_117 ?_
  refine k_ast (q := 221) (j := 22) dX7_init_220 rfl (by omega) a5 (ev_ix_nI (j := 22) (by decide) (by decide)) (fun w h9 r9 => ?_)
  replace hb := (r9 _ (by omega)).trans hb
  replace a1 := (r9 _ (by omega)).trans a1
  replace a2 := (r9 _ (by omega)).trans a2
  replace a3 := (r9 _ (by omega)).trans a3
  replace a4 := (r9 _ (by omega)).trans a4
  replace hF : Fr b (b + 12) w0 w := fun k hk => (r9 k (by omega)).trans (hF k hk)
  replace a5 := h9
  refine st_dup (q := 222) dX7_init_221 rfl rfl ?_
  refine st_bipush (q := 224) dX7_init_222 rfl bp_23 ?_
  refine st_bipush (q := 226) dX7_init_224 rfl bp_115 ?_
  refine k_ast (q := 227) (j := 23) dX7_init_226 rfl (by omega) a5 (ev_ix_nI (j := 23) (by decide) (by decide)) (fun w h9 r9 => ?_)
  replace hb := (r9 _ (by omega)).trans hb
  replace a1 := (r9 _ (by omega)).trans a1
  replace a2 := (r9 _ (by omega)).trans a2
  replace a3 := (r9 _ (by omega)).trans a3
  replace a4 := (r9 _ (by omega)).trans a4
  replace hF : Fr b (b + 12) w0 w := fun k hk => (r9 k (by omega)).trans (hF k hk)
  replace a5 := h9
  refine st_dup (q := 228) dX7_init_227 rfl rfl ?_
  refine st_bipush (q := 230) dX7_init_228 rfl bp_24 ?_
  refine st_bipush (q := 232) dX7_init_230 rfl bp_101 ?_
  refine k_ast (q := 233) (j := 24) dX7_init_232 rfl (by omega) a5 (ev_ix_nI (j := 24) (by decide) (by decide)) (fun w h9 r9 => ?_)
  replace hb := (r9 _ (by omega)).trans hb
  replace a1 := (r9 _ (by omega)).trans a1
  replace a2 := (r9 _ (by omega)).trans a2
  replace a3 := (r9 _ (by omega)).trans a3
  replace a4 := (r9 _ (by omega)).trans a4
  replace hF : Fr b (b + 12) w0 w := fun k hk => (r9 k (by omega)).trans (hF k hk)
  replace a5 := h9
  refine st_dup (q := 234) dX7_init_233 rfl rfl ?_
  refine st_bipush (q := 236) dX7_init_234 rfl bp_25 ?_
  refine st_bipush (q := 238) dX7_init_236 rfl bp_114 ?_
  refine k_ast (q := 239) (j := 25) dX7_init_238 rfl (by omega) a5 (ev_ix_nI (j := 25) (by decide) (by decide)) (fun w h9 r9 => ?_)
  replace hb := (r9 _ (by omega)).trans hb
  replace a1 := (r9 _ (by omega)).trans a1
  replace a2 := (r9 _ (by omega)).trans a2
  replace a3 := (r9 _ (by omega)).trans a3
  replace a4 := (r9 _ (by omega)).trans a4
  replace hF : Fr b (b + 12) w0 w := fun k hk => (r9 k (by omega)).trans (hF k hk)
  replace a5 := h9
  refine st_dup (q := 240) dX7_init_239 rfl rfl ?_
  refine st_bipush (q := 242) dX7_init_240 rfl bp_26 ?_
  refine st_bipush (q := 244) dX7_init_242 rfl bp_105 ?_
  refine k_ast (q := 245) (j := 26) dX7_init_244 rfl (by omega) a5 (ev_ix_nI (j := 26) (by decide) (by decide)) (fun w h9 r9 => ?_)
  replace hb := (r9 _ (by omega)).trans hb
  replace a1 := (r9 _ (by omega)).trans a1
  replace a2 := (r9 _ (by omega)).trans a2
  replace a3 := (r9 _ (by omega)).trans a3
  replace a4 := (r9 _ (by omega)).trans a4
  replace hF : Fr b (b + 12) w0 w := fun k hk => (r9 k (by omega)).trans (hF k hk)
  replace a5 := h9
  refine st_dup (q := 246) dX7_init_245 rfl rfl ?_
  refine st_bipush (q := 248) dX7_init_246 rfl bp_27 ?_
  refine st_bipush (q := 250) dX7_init_248 rfl bp_115 ?_
  refine k_ast (q := 251) (j := 27) dX7_init_250 rfl (by omega) a5 (ev_ix_nI (j := 27) (by decide) (by decide)) (fun w h9 r9 => ?_)
  replace hb := (r9 _ (by omega)).trans hb
  replace a1 := (r9 _ (by omega)).trans a1
  replace a2 := (r9 _ (by omega)).trans a2
  replace a3 := (r9 _ (by omega)).trans a3
  replace a4 := (r9 _ (by omega)).trans a4
  replace hF : Fr b (b + 12) w0 w := fun k hk => (r9 k (by omega)).trans (hF k hk)
  replace a5 := h9
  refine st_dup (q := 252) dX7_init_251 rfl rfl ?_
  refine st_bipush (q := 254) dX7_init_252 rfl bp_28 ?_
  refine st_bipush (q := 256) dX7_init_254 rfl bp_101 ?_
  refine k_ast (q := 257) (j := 28) dX7_init_256 rfl (by omega) a5 (ev_ix_nI (j := 28) (by decide) (by decide)) (fun w h9 r9 => ?_)
  replace hb := (r9 _ (by omega)).trans hb
  replace a1 := (r9 _ (by omega)).trans a1
  replace a2 := (r9 _ (by omega)).trans a2
  replace a3 := (r9 _ (by omega)).trans a3
  replace a4 := (r9 _ (by omega)).trans a4
  replace hF : Fr b (b + 12) w0 w := fun k hk => (r9 k (by omega)).trans (hF k hk)
  replace a5 := h9
  refine st_dup (q := 258) dX7_init_257 rfl rfl ?_
  refine st_bipush (q := 260) dX7_init_258 rfl bp_29 ?_
  refine st_bipush (q := 262) dX7_init_260 rfl bp_119 ?_
  refine k_ast (q := 263) (j := 29) dX7_init_262 rfl (by omega) a5 (ev_ix_nI (j := 29) (by decide) (by decide)) (fun w h9 r9 => ?_)
  replace hb := (r9 _ (by omega)).trans hb
  replace a1 := (r9 _ (by omega)).trans a1
  replace a2 := (r9 _ (by omega)).trans a2
  replace a3 := (r9 _ (by omega)).trans a3
  replace a4 := (r9 _ (by omega)).trans a4
  replace hF : Fr b (b + 12) w0 w := fun k hk => (r9 k (by omega)).trans (hF k hk)
  replace a5 := h9
  refine st_dup (q := 264) dX7_init_263 rfl rfl ?_
  refine st_bipush (q := 266) dX7_init_264 rfl bp_30 ?_
  refine st_bipush (q := 268) dX7_init_266 rfl bp_105 ?_
  refine k_ast (q := 269) (j := 30) dX7_init_268 rfl (by omega) a5 (ev_ix_nI (j := 30) (by decide) (by decide)) (fun w h9 r9 => ?_)
  replace hb := (r9 _ (by omega)).trans hb
  replace a1 := (r9 _ (by omega)).trans a1
  replace a2 := (r9 _ (by omega)).trans a2
  replace a3 := (r9 _ (by omega)).trans a3
  replace a4 := (r9 _ (by omega)).trans a4
  replace hF : Fr b (b + 12) w0 w := fun k hk => (r9 k (by omega)).trans (hF k hk)
  replace a5 := h9
  refine st_dup (q := 270) dX7_init_269 rfl rfl ?_
  refine st_bipush (q := 272) dX7_init_270 rfl bp_31 ?_
  refine st_bipush (q := 274) dX7_init_272 rfl bp_110 ?_
  refine k_ast (q := 275) (j := 31) dX7_init_274 rfl (by omega) a5 (ev_ix_nI (j := 31) (by decide) (by decide)) (fun w h9 r9 => ?_)
  replace hb := (r9 _ (by omega)).trans hb
  replace a1 := (r9 _ (by omega)).trans a1
  replace a2 := (r9 _ (by omega)).trans a2
  replace a3 := (r9 _ (by omega)).trans a3
  replace a4 := (r9 _ (by omega)).trans a4
  replace hF : Fr b (b + 12) w0 w := fun k hk => (r9 k (by omega)).trans (hF k hk)
  replace a5 := h9
  refine st_dup (q := 276) dX7_init_275 rfl rfl ?_
  refine st_bipush (q := 278) dX7_init_276 rfl bp_32 ?_
  refine st_bipush (q := 280) dX7_init_278 rfl bp_100 ?_
  refine k_ast (q := 281) (j := 32) dX7_init_280 rfl (by omega) a5 (ev_ix_nI (j := 32) (by decide) (by decide)) (fun w h9 r9 => ?_)
  replace hb := (r9 _ (by omega)).trans hb
  replace a1 := (r9 _ (by omega)).trans a1
  replace a2 := (r9 _ (by omega)).trans a2
  replace a3 := (r9 _ (by omega)).trans a3
  replace a4 := (r9 _ (by omega)).trans a4
  replace hF : Fr b (b + 12) w0 w := fun k hk => (r9 k (by omega)).trans (hF k hk)
  replace a5 := h9
  refine st_dup (q := 282) dX7_init_281 rfl rfl ?_
  refine st_bipush (q := 284) dX7_init_282 rfl bp_33 ?_
  refine st_bipush (q := 286) dX7_init_284 rfl bp_108 ?_
  refine k_ast (q := 287) (j := 33) dX7_init_286 rfl (by omega) a5 (ev_ix_nI (j := 33) (by decide) (by decide)) (fun w h9 r9 => ?_)
  replace hb := (r9 _ (by omega)).trans hb
  replace a1 := (r9 _ (by omega)).trans a1
  replace a2 := (r9 _ (by omega)).trans a2
  replace a3 := (r9 _ (by omega)).trans a3
  replace a4 := (r9 _ (by omega)).trans a4
  replace hF : Fr b (b + 12) w0 w := fun k hk => (r9 k (by omega)).trans (hF k hk)
  replace a5 := h9
  refine st_dup (q := 288) dX7_init_287 rfl rfl ?_
  refine st_bipush (q := 290) dX7_init_288 rfl bp_34 ?_
  refine st_bipush (q := 292) dX7_init_290 rfl bp_101 ?_
  refine k_ast (q := 293) (j := 34) dX7_init_292 rfl (by omega) a5 (ev_ix_nI (j := 34) (by decide) (by decide)) (fun w h9 r9 => ?_)
  replace hb := (r9 _ (by omega)).trans hb
  replace a1 := (r9 _ (by omega)).trans a1
  replace a2 := (r9 _ (by omega)).trans a2
  replace a3 := (r9 _ (by omega)).trans a3
  replace a4 := (r9 _ (by omega)).trans a4
  replace hF : Fr b (b + 12) w0 w := fun k hk => (r9 k (by omega)).trans (hF k hk)
  replace a5 := h9
  refine st_dup (q := 294) dX7_init_293 rfl rfl ?_
  refine st_bipush (q := 296) dX7_init_294 rfl bp_35 ?_
  refine st_bipush (q := 298) dX7_init_296 rfl bp_118 ?_
  refine k_ast (q := 299) (j := 35) dX7_init_298 rfl (by omega) a5 (ev_ix_nI (j := 35) (by decide) (by decide)) (fun w h9 r9 => ?_)
  replace hb := (r9 _ (by omega)).trans hb
  replace a1 := (r9 _ (by omega)).trans a1
  replace a2 := (r9 _ (by omega)).trans a2
  replace a3 := (r9 _ (by omega)).trans a3
  replace a4 := (r9 _ (by omega)).trans a4
  replace hF : Fr b (b + 12) w0 w := fun k hk => (r9 k (by omega)).trans (hF k hk)
  replace a5 := h9
  refine st_dup (q := 300) dX7_init_299 rfl rfl ?_
  refine st_bipush (q := 302) dX7_init_300 rfl bp_36 ?_
  refine st_bipush (q := 304) dX7_init_302 rfl bp_101 ?_
  refine k_ast (q := 305) (j := 36) dX7_init_304 rfl (by omega) a5 (ev_ix_nI (j := 36) (by decide) (by decide)) (fun w h9 r9 => ?_)
  replace hb := (r9 _ (by omega)).trans hb
  replace a1 := (r9 _ (by omega)).trans a1
  replace a2 := (r9 _ (by omega)).trans a2
  replace a3 := (r9 _ (by omega)).trans a3
  replace a4 := (r9 _ (by omega)).trans a4
  replace hF : Fr b (b + 12) w0 w := fun k hk => (r9 k (by omega)).trans (hF k hk)
  replace a5 := h9
  refine st_dup (q := 306) dX7_init_305 rfl rfl ?_
  refine st_bipush (q := 308) dX7_init_306 rfl bp_37 ?_
  refine st_bipush (q := 310) dX7_init_308 rfl bp_108 ?_
  refine k_ast (q := 311) (j := 37) dX7_init_310 rfl (by omega) a5 (ev_ix_nI (j := 37) (by decide) (by decide)) (fun w h9 r9 => ?_)
  replace hb := (r9 _ (by omega)).trans hb
  replace a1 := (r9 _ (by omega)).trans a1
  replace a2 := (r9 _ (by omega)).trans a2
  replace a3 := (r9 _ (by omega)).trans a3
  replace a4 := (r9 _ (by omega)).trans a4
  replace hF : Fr b (b + 12) w0 w := fun k hk => (r9 k (by omega)).trans (hF k hk)
  replace a5 := h9
  refine k_putF (q := 314) dX7_init_311 rfl fl_X7_22 rfl (by omega) hb rfl (fun _ => rfl) (fun _ => rfl) rfl (fun w h9 r9 => ?_)
  replace a1 := (r9 _ (by omega)).trans a1
  replace a2 := (r9 _ (by omega)).trans a2
  replace a3 := (r9 _ (by omega)).trans a3
  replace a4 := (r9 _ (by omega)).trans a4
  replace a5 := (r9 _ (by omega)).trans a5
  replace hF : Fr b (b + 12) w0 w := fun k hk => (r9 k (by omega)).trans (hF k hk)
  replace hb : w b = oO 7 [.ref (b + 1), .int 0, .int 0, .ref (b + 2), .int 0, .int 0, .int 0, .int 0, .int 0, .ref (b + 3), .int 0, .int 0, .int 0, .int 0, .int 0, .int 0, .int 0, .int 0, .ref (b + 4), .ref (b + 5), .int 0, .null, .int 0, .null, .null, .null, .null, .null, .int 0] := h9
  refine st_aload_n (q := 315) dX7_init_314 rfl rfl rfl ?_
  refine st_bipush (q := 317) dX7_init_315 rfl bp_12 ?_
  refine k_newI (q := 319) (N := 12) (cs' := (6, 716)) dX7_init_317 rfl (by decide) (by decide) (by decide) (by omega) rfl (Nat.le_of_ble_eq_true rfl) (Nat.le_of_ble_eq_true rfl) (fun w h9 r9 => ?_)
  replace hb := (r9 _ (by omega)).trans hb
  replace a1 := (r9 _ (by omega)).trans a1
  replace a2 := (r9 _ (by omega)).trans a2
  replace a3 := (r9 _ (by omega)).trans a3
  replace a4 := (r9 _ (by omega)).trans a4
  replace a5 := (r9 _ (by omega)).trans a5
  replace hF : Fr b (b + 12) w0 w := fun k hk => (r9 k (by omega)).trans (hF k hk)
  have a6 := h9
  refine k_putF (q := 322) dX7_init_319 rfl fl_X7_25 rfl (by omega) hb rfl (fun _ => rfl) (fun _ => rfl) rfl (fun w h9 r9 => ?_)
  replace a1 := (r9 _ (by omega)).trans a1
  replace a2 := (r9 _ (by omega)).trans a2
  replace a3 := (r9 _ (by omega)).trans a3
  replace a4 := (r9 _ (by omega)).trans a4
  replace a5 := (r9 _ (by omega)).trans a5
  replace a6 := (r9 _ (by omega)).trans a6
  replace hF : Fr b (b + 12) w0 w := fun k hk => (r9 k (by omega)).trans (hF k hk)
  replace hb : w b = oO 7 [.ref (b + 1), .int 0, .int 0, .ref (b + 2), .int 0, .int 0, .int 0, .int 0, .int 0, .ref (b + 3), .int 0, .int 0, .int 0, .int 0, .int 0, .int 0, .int 0, .int 0, .ref (b + 4), .ref (b + 5), .int 0, .ref (b + 6), .int 0, .null, .null, .null, .null, .null, .int 0] := h9
  refine st_aload_n (q := 323) dX7_init_322 rfl rfl rfl ?_
  refine st_sipush (q := 326) dX7_init_323 rfl sp_651 ?_
  refine k_newI (q := 328) (N := 651) (cs' := (7, 1367)) dX7_init_326 rfl (by decide) (by decide) (by decide) (by omega) rfl (Nat.le_of_ble_eq_true rfl) (Nat.le_of_ble_eq_true rfl) (fun w h9 r9 => ?_)
  replace hb := (r9 _ (by omega)).trans hb
  replace a1 := (r9 _ (by omega)).trans a1
  replace a2 := (r9 _ (by omega)).trans a2
  replace a3 := (r9 _ (by omega)).trans a3
  replace a4 := (r9 _ (by omega)).trans a4
  replace a5 := (r9 _ (by omega)).trans a5
  replace a6 := (r9 _ (by omega)).trans a6
  replace hF : Fr b (b + 12) w0 w := fun k hk => (r9 k (by omega)).trans (hF k hk)
  have a7 := h9
  refine k_putF (q := 331) dX7_init_328 rfl fl_X7_28 rfl (by omega) hb rfl (fun _ => rfl) (fun _ => rfl) rfl (fun w h9 r9 => ?_)
  replace a1 := (r9 _ (by omega)).trans a1
  replace a2 := (r9 _ (by omega)).trans a2
  replace a3 := (r9 _ (by omega)).trans a3
  replace a4 := (r9 _ (by omega)).trans a4
  replace a5 := (r9 _ (by omega)).trans a5
  replace a6 := (r9 _ (by omega)).trans a6
  replace a7 := (r9 _ (by omega)).trans a7
  replace hF : Fr b (b + 12) w0 w := fun k hk => (r9 k (by omega)).trans (hF k hk)
  replace hb : w b = oO 7 [.ref (b + 1), .int 0, .int 0, .ref (b + 2), .int 0, .int 0, .int 0, .int 0, .int 0, .ref (b + 3), .int 0, .int 0, .int 0, .int 0, .int 0, .int 0, .int 0, .int 0, .ref (b + 4), .ref (b + 5), .int 0, .ref (b + 6), .int 0, .ref (b + 7), .null, .null, .null, .null, .int 0] := h9
  refine st_aload_n (q := 332) dX7_init_331 rfl rfl rfl ?_
  refine st_iconst (q := 333) dX7_init_332 rfl ic_2 ?_
  refine k_newZ (q := 335) (N := 2) (cs' := (8, 1369)) dX7_init_333 rfl (by decide) (by decide) (by decide) (by omega) rfl (Nat.le_of_ble_eq_true rfl) (Nat.le_of_ble_eq_true rfl) (fun w h9 r9 => ?_)
  replace hb := (r9 _ (by omega)).trans hb
  replace a1 := (r9 _ (by omega)).trans a1
  replace a2 := (r9 _ (by omega)).trans a2
  replace a3 := (r9 _ (by omega)).trans a3
  replace a4 := (r9 _ (by omega)).trans a4
  replace a5 := (r9 _ (by omega)).trans a5
  replace a6 := (r9 _ (by omega)).trans a6
  replace a7 := (r9 _ (by omega)).trans a7
  replace hF : Fr b (b + 12) w0 w := fun k hk => (r9 k (by omega)).trans (hF k hk)
  have a8 := h9
  refine k_putF (q := 338) dX7_init_335 rfl fl_X7_31 rfl (by omega) hb rfl (fun _ => rfl) (fun _ => rfl) rfl (fun w h9 r9 => ?_)
  replace a1 := (r9 _ (by omega)).trans a1
  replace a2 := (r9 _ (by omega)).trans a2
  replace a3 := (r9 _ (by omega)).trans a3
  replace a4 := (r9 _ (by omega)).trans a4
  replace a5 := (r9 _ (by omega)).trans a5
  replace a6 := (r9 _ (by omega)).trans a6
  replace a7 := (r9 _ (by omega)).trans a7
  replace a8 := (r9 _ (by omega)).trans a8
  replace hF : Fr b (b + 12) w0 w := fun k hk => (r9 k (by omega)).trans (hF k hk)
  replace hb : w b = oO 7 [.ref (b + 1), .int 0, .int 0, .ref (b + 2), .int 0, .int 0, .int 0, .int 0, .int 0, .ref (b + 3), .int 0, .int 0, .int 0, .int 0, .int 0, .int 0, .int 0, .int 0, .ref (b + 4), .ref (b + 5), .int 0, .ref (b + 6), .int 0, .ref (b + 7), .ref (b + 8), .null, .null, .null, .int 0] := h9
  refine st_aload_n (q := 339) dX7_init_338 rfl rfl rfl ?_
  refine st_iconst (q := 340) dX7_init_339 rfl ic_4 ?_
  refine k_newI (q := 342) (N := 4) (cs' := (9, 1373)) dX7_init_340 rfl (by decide) (by decide) (by decide) (by omega) rfl (Nat.le_of_ble_eq_true rfl) (Nat.le_of_ble_eq_true rfl) (fun w h9 r9 => ?_)
  replace hb := (r9 _ (by omega)).trans hb
  replace a1 := (r9 _ (by omega)).trans a1
  replace a2 := (r9 _ (by omega)).trans a2
  replace a3 := (r9 _ (by omega)).trans a3
  replace a4 := (r9 _ (by omega)).trans a4
  replace a5 := (r9 _ (by omega)).trans a5
  replace a6 := (r9 _ (by omega)).trans a6
  replace a7 := (r9 _ (by omega)).trans a7
  replace a8 := (r9 _ (by omega)).trans a8
  replace hF : Fr b (b + 12) w0 w := fun k hk => (r9 k (by omega)).trans (hF k hk)
  have a9 := h9
  refine st_dup (q := 343) dX7_init_342 rfl rfl ?_
  refine st_iconst (q := 344) dX7_init_343 rfl ic_0 ?_
  refine st_bipush (q := 346) dX7_init_344 rfl bp_m4 ?_
  refine k_ast (q := 347) (j := 0) dX7_init_346 rfl (by omega) a9 (ev_ix_nI (j := 0) (by decide) (by decide)) (fun w h9 r9 => ?_)
  replace hb := (r9 _ (by omega)).trans hb
  replace a1 := (r9 _ (by omega)).trans a1
  replace a2 := (r9 _ (by omega)).trans a2
  replace a3 := (r9 _ (by omega)).trans a3
  replace a4 := (r9 _ (by omega)).trans a4
  replace a5 := (r9 _ (by omega)).trans a5
  replace a6 := (r9 _ (by omega)).trans a6
  replace a7 := (r9 _ (by omega)).trans a7
  replace a8 := (r9 _ (by omega)).trans a8
  replace hF : Fr b (b + 12) w0 w := fun k hk => (r9 k (by omega)).trans (hF k hk)
  replace a9 := h9
  refine st_dup (q := 348) dX7_init_347 rfl rfl ?_
  refine st_iconst (q := 349) dX7_init_348 rfl ic_1 ?_
  refine st_bipush (q := 351) dX7_init_349 rfl bp_m4 ?_
  refine k_ast (q := 352) (j := 1) dX7_init_351 rfl (by omega) a9 (ev_ix_nI (j := 1) (by decide) (by decide)) (fun w h9 r9 => ?_)
  replace hb := (r9 _ (by omega)).trans hb
  replace a1 := (r9 _ (by omega)).trans a1
  replace a2 := (r9 _ (by omega)).trans a2
  replace a3 := (r9 _ (by omega)).trans a3
  replace a4 := (r9 _ (by omega)).trans a4
  replace a5 := (r9 _ (by omega)).trans a5
  replace a6 := (r9 _ (by omega)).trans a6
  replace a7 := (r9 _ (by omega)).trans a7
  replace a8 := (r9 _ (by omega)).trans a8
  replace hF : Fr b (b + 12) w0 w := fun k hk => (r9 k (by omega)).trans (hF k hk)
  replace a9 := h9
  refine st_dup (q := 353) dX7_init_352 rfl rfl ?_
  refine st_iconst (q := 354) dX7_init_353 rfl ic_2 ?_
  refine st_bipush (q := 356) dX7_init_354 rfl bp_m4 ?_
  refine k_ast (q := 357) (j := 2) dX7_init_356 rfl (by omega) a9 (ev_ix_nI (j := 2) (by decide) (by decide)) (fun w h9 r9 => ?_)
  replace hb := (r9 _ (by omega)).trans hb
  replace a1 := (r9 _ (by omega)).trans a1
  replace a2 := (r9 _ (by omega)).trans a2
  replace a3 := (r9 _ (by omega)).trans a3
  replace a4 := (r9 _ (by omega)).trans a4
  replace a5 := (r9 _ (by omega)).trans a5
  replace a6 := (r9 _ (by omega)).trans a6
  replace a7 := (r9 _ (by omega)).trans a7
  replace a8 := (r9 _ (by omega)).trans a8
  replace hF : Fr b (b + 12) w0 w := fun k hk => (r9 k (by omega)).trans (hF k hk)
  replace a9 := h9
  refine st_dup (q := 358) dX7_init_357 rfl rfl ?_
  refine st_iconst (q := 359) dX7_init_358 rfl ic_3 ?_
  refine st_bipush (q := 361) dX7_init_359 rfl bp_m4 ?_
  refine k_ast (q := 362) (j := 3) dX7_init_361 rfl (by omega) a9 (ev_ix_nI (j := 3) (by decide) (by decide)) (fun w h9 r9 => ?_)
  replace hb := (r9 _ (by omega)).trans hb
  replace a1 := (r9 _ (by omega)).trans a1
  replace a2 := (r9 _ (by omega)).trans a2
  replace a3 := (r9 _ (by omega)).trans a3
  replace a4 := (r9 _ (by omega)).trans a4
  replace a5 := (r9 _ (by omega)).trans a5
  replace a6 := (r9 _ (by omega)).trans a6
  replace a7 := (r9 _ (by omega)).trans a7
  replace a8 := (r9 _ (by omega)).trans a8
  replace hF : Fr b (b + 12) w0 w := fun k hk => (r9 k (by omega)).trans (hF k hk)
  replace a9 := h9
  refine k_putF (q := 365) dX7_init_362 rfl fl_X7_35 rfl (by omega) hb rfl (fun _ => rfl) (fun _ => rfl) rfl (fun w h9 r9 => ?_)
  replace a1 := (r9 _ (by omega)).trans a1
  replace a2 := (r9 _ (by omega)).trans a2
  replace a3 := (r9 _ (by omega)).trans a3
  replace a4 := (r9 _ (by omega)).trans a4
  replace a5 := (r9 _ (by omega)).trans a5
  replace a6 := (r9 _ (by omega)).trans a6
  replace a7 := (r9 _ (by omega)).trans a7
  replace a8 := (r9 _ (by omega)).trans a8
  replace a9 := (r9 _ (by omega)).trans a9
  replace hF : Fr b (b + 12) w0 w := fun k hk => (r9 k (by omega)).trans (hF k hk)
  replace hb : w b = oO 7 [.ref (b + 1), .int 0, .int 0, .ref (b + 2), .int 0, .int 0, .int 0, .int 0, .int 0, .ref (b + 3), .int 0, .int 0, .int 0, .int 0, .int 0, .int 0, .int 0, .int 0, .ref (b + 4), .ref (b + 5), .int 0, .ref (b + 6), .int 0, .ref (b + 7), .ref (b + 8), .ref (b + 9), .null, .null, .int 0] := h9
  refine st_aload_n (q := 366) dX7_init_365 rfl rfl rfl ?_
  refine st_iconst (q := 367) dX7_init_366 rfl ic_4 ?_
  refine k_newI (q := 369) (N := 4) (cs' := (10, 1377)) dX7_init_367 rfl (by decide) (by decide) (by decide) (by omega) rfl (Nat.le_of_ble_eq_true rfl) (Nat.le_of_ble_eq_true rfl) (fun w h9 r9 => ?_)
  replace hb := (r9 _ (by omega)).trans hb
  replace a1 := (r9 _ (by omega)).trans a1
  replace a2 := (r9 _ (by omega)).trans a2
  replace a3 := (r9 _ (by omega)).trans a3
  replace a4 := (r9 _ (by omega)).trans a4
  replace a5 := (r9 _ (by omega)).trans a5
  replace a6 := (r9 _ (by omega)).trans a6
  replace a7 := (r9 _ (by omega)).trans a7
  replace a8 := (r9 _ (by omega)).trans a8
  replace a9 := (r9 _ (by omega)).trans a9
  replace hF : Fr b (b + 12) w0 w := fun k hk => (r9 k (by omega)).trans (hF k hk)
  have a10 := h9
  refine k_putF (q := 372) dX7_init_369 rfl fl_X7_38 rfl (by omega) hb rfl (fun _ => rfl) (fun _ => rfl) rfl (fun w h9 r9 => ?_)
  replace a1 := (r9 _ (by omega)).trans a1
  replace a2 := (r9 _ (by omega)).trans a2
  replace a3 := (r9 _ (by omega)).trans a3
  replace a4 := (r9 _ (by omega)).trans a4
  replace a5 := (r9 _ (by omega)).trans a5
  replace a6 := (r9 _ (by omega)).trans a6
  replace a7 := (r9 _ (by omega)).trans a7
  replace a8 := (r9 _ (by omega)).trans a8
  replace a9 := (r9 _ (by omega)).trans a9
  replace a10 := (r9 _ (by omega)).trans a10
  replace hF : Fr b (b + 12) w0 w := fun k hk => (r9 k (by omega)).trans (hF k hk)
  replace hb : w b = oO 7 [.ref (b + 1), .int 0, .int 0, .ref (b + 2), .int 0, .int 0, .int 0, .int 0, .int 0, .ref (b + 3), .int 0, .int 0, .int 0, .int 0, .int 0, .int 0, .int 0, .int 0, .ref (b + 4), .ref (b + 5), .int 0, .ref (b + 6), .int 0, .ref (b + 7), .ref (b + 8), .ref (b + 9), .ref (b + 10), .null, .int 0] := h9
  refine st_aload_n (q := 373) dX7_init_372 rfl rfl rfl ?_
  refine st_sipush (q := 376) dX7_init_373 rfl sp_160 ?_
  refine k_newI (q := 378) (N := 160) (cs' := (11, 1537)) dX7_init_376 rfl (by decide) (by decide) (by decide) (by omega) rfl (Nat.le_of_ble_eq_true rfl) (Nat.le_of_ble_eq_true rfl) (fun w h9 r9 => ?_)
  replace hb := (r9 _ (by omega)).trans hb
  replace a1 := (r9 _ (by omega)).trans a1
  replace a2 := (r9 _ (by omega)).trans a2
  replace a3 := (r9 _ (by omega)).trans a3
  replace a4 := (r9 _ (by omega)).trans a4
  replace a5 := (r9 _ (by omega)).trans a5
  replace a6 := (r9 _ (by omega)).trans a6
  replace a7 := (r9 _ (by omega)).trans a7
  replace a8 := (r9 _ (by omega)).trans a8
  replace a9 := (r9 _ (by omega)).trans a9
  replace a10 := (r9 _ (by omega)).trans a10
  replace hF : Fr b (b + 12) w0 w := fun k hk => (r9 k (by omega)).trans (hF k hk)
  have a11 := h9
  refine k_putF (q := 381) dX7_init_378 rfl fl_X7_41 rfl (by omega) hb rfl (fun _ => rfl) (fun _ => rfl) rfl (fun w h9 r9 => ?_)
  replace a1 := (r9 _ (by omega)).trans a1
  replace a2 := (r9 _ (by omega)).trans a2
  replace a3 := (r9 _ (by omega)).trans a3
  replace a4 := (r9 _ (by omega)).trans a4
  replace a5 := (r9 _ (by omega)).trans a5
  replace a6 := (r9 _ (by omega)).trans a6
  replace a7 := (r9 _ (by omega)).trans a7
  replace a8 := (r9 _ (by omega)).trans a8
  replace a9 := (r9 _ (by omega)).trans a9
  replace a10 := (r9 _ (by omega)).trans a10
  replace a11 := (r9 _ (by omega)).trans a11
  replace hF : Fr b (b + 12) w0 w := fun k hk => (r9 k (by omega)).trans (hF k hk)
  replace hb : w b = oO 7 [.ref (b + 1), .int 0, .int 0, .ref (b + 2), .int 0, .int 0, .int 0, .int 0, .int 0, .ref (b + 3), .int 0, .int 0, .int 0, .int 0, .int 0, .int 0, .int 0, .int 0, .ref (b + 4), .ref (b + 5), .int 0, .ref (b + 6), .int 0, .ref (b + 7), .ref (b + 8), .ref (b + 9), .ref (b + 10), .ref (b + 11), .int 0] := h9
  refine st_return dX7_init_381 rfl ?_
  refine ⟨rfl, rfl, ⟨by omega, hb, fun i o ty len hi => ?_⟩, hF⟩
  match i, hi with
  | 0, hi => cases hi; exact ⟨_, a1, fun j _ => rfl⟩
  | 1, hi => cases hi
  | 2, hi => cases hi
  | 3, hi => cases hi; exact ⟨_, a2, fun j _ => rfl⟩
  | 4, hi => cases hi
  | 5, hi => cases hi
  | 6, hi => cases hi
  | 7, hi => cases hi
  | 8, hi => cases hi
  | 9, hi => cases hi; exact ⟨_, a3, fun j _ => rfl⟩
  | 10, hi => cases hi
  | 11, hi => cases hi
  | 12, hi => cases hi
  | 13, hi => cases hi
  | 14, hi => cases hi
  | 15, hi => cases hi
  | 16, hi => cases hi
  | 17, hi => cases hi
  | 18, hi => cases hi; exact ⟨_, a4, (by decide +kernel : ∀ j, j < 9 → ((upd (upd (upd (upd (upd (upd (upd (upd (upd (fun _ => 0) 0 (0)) 1 (5)) 2 (10)) 3 (16)) 4 (20)) 5 (25)) 6 (29)) 7 (33)) 8 (38)) : Nat → Int32) j = m7T 18 j)⟩
  | 19, hi => cases hi; exact ⟨_, a5, (by decide +kernel : ∀ j, j < 38 → ((upd (upd (upd (upd (upd (upd (upd (upd (upd (upd (upd (upd (upd (upd (upd (upd (upd (upd (upd (upd (upd (upd (upd (upd (upd (upd (upd (upd (upd (upd (upd (upd (upd (upd (upd (upd (upd (upd (fun _ => 0) 0 (112)) 1 (108)) 2 (97)) 3 (105)) 4 (110)) 5 (112)) 6 (105)) 7 (97)) 8 (110)) 9 (111)) 10 (102)) 11 (97)) 12 (116)) 13 (104)) 14 (101)) 15 (114)) 16 (115)) 17 (101)) 18 (108)) 19 (102)) 20 (104)) 21 (111)) 22 (117)) 23 (115)) 24 (101)) 25 (114)) 26 (105)) 27 (115)) 28 (101)) 29 (119)) 30 (105)) 31 (110)) 32 (100)) 33 (108)) 34 (101)) 35 (118)) 36 (101)) 37 (108)) : Nat → Int32) j = m7T 19 j)⟩
  | 20, hi => cases hi
  | 21, hi => cases hi; exact ⟨_, a6, fun j _ => rfl⟩
  | 22, hi => cases hi
  | 23, hi => cases hi; exact ⟨_, a7, fun j _ => rfl⟩
  | 24, hi => cases hi; exact ⟨_, a8, fun j _ => rfl⟩
  | 25, hi => cases hi; exact ⟨_, a9, (by decide +kernel : ∀ j, j < 4 → ((upd (upd (upd (upd (fun _ => 0) 0 (-4)) 1 (-4)) 2 (-4)) 3 (-4)) : Nat → Int32) j = m7T 25 j)⟩
  | 26, hi => cases hi; exact ⟨_, a10, fun j _ => rfl⟩
  | 27, hi => cases hi; exact ⟨_, a11, fun j _ => rfl⟩
  | 28, hi => cases hi
  | _ + 29, hi => cases hi
