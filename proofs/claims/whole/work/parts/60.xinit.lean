set_option maxRecDepth 100000 in
set_option maxHeartbeats 4000000 in
theorem c_X1_init {E : ev_E} {w0 : ev_W} (h0 : w0 42 = oO 1 [.null, .null, .null, .int 0, .int 0, .int 0, .int 0, .int 0, .int 0, .int 0, .int 0, .int 0]) : Ct E mX1_init [.ref 42] 43 w0 (fun a m u => a = none ∧ m = 56 ∧ (RR z0T 56 u ∧ PR z0T 43 56 u ∧ TR t5T 45 56 u) ∧ Fr 42 56 w0 u) := by
  refine Ct.of 0 (by decide) (Nat.le_of_ble_eq_true rfl) rfl ?_
  have hF : Fr 42 56 w0 w0 := Fr.rf
  refine st_aload_n (q := 1) dX1_init_0 rfl rfl rfl ?_
  refine st_objInit (q := 4) dX1_init_1 rfl ml_X1_3 jo_i jo_c (Nat.le_of_ble_eq_true rfl) (Nat.le_of_ble_eq_true rfl) (Nat.le_of_ble_eq_true rfl) ?_
  refine st_aload_n (q := 5) dX1_init_4 rfl rfl rfl ?_
  refine k_new (q := 8) (fs := [.null, .int 0]) (cs' := (1, 2)) dX1_init_5 rfl ci_X4 cl_X1_9 is_X4 iz_X4 (by decide) (by simp [ev_ext, ev_cv]) (by omega) rfl (Nat.le_of_ble_eq_true rfl) (Nat.le_of_ble_eq_true rfl) (fun w h9 r9 => ?_)
  replace h0 := (r9 _ (by omega)).trans h0
  replace hF : Fr 42 56 w0 w := fun k hk => (r9 k (by omega)).trans (hF k hk)
  have ob1 := h9
  refine st_dup (q := 9) dX1_init_8 rfl rfl ?_
  refine st_IN0 (q := 12) (cs' := (2, 162)) (M' := mX4_init) dX1_init_9 rfl ok_X4_init mk_X4_init ml_X1_11 ⟨(Nat.le_of_ble_eq_true rfl), (Nat.le_of_ble_eq_true rfl)⟩ rfl (Nat.le_of_ble_eq_true rfl) rfl (Nat.le_of_ble_eq_true rfl) (Nat.le_of_ble_eq_true rfl) (c_X4_init (b := 43) ob1 (by decide)) ?_
  intro _ n9 w h9 _
  obtain ⟨rfl, rfl, hZ, r9⟩ := h9
  clear ob1
  replace h0 := (r9 _ (by omega)).trans h0
  replace hF : Fr 42 56 w0 w := fun k hk => (r9 k (by omega)).trans (hF k hk)
  have g43 := hZ
  refine k_putF (q := 15) dX1_init_12 rfl fl_X1_12 rfl (by omega) h0 rfl (fun _ => rfl) (fun _ => rfl) rfl (fun w h9 r9 => ?_)
  replace g43 := GR.fr gkX4 g43 (fun k h1 h2 => r9 k (by omega))
  replace hF : Fr 42 56 w0 w := fun k hk => (r9 k (by omega)).trans (hF k hk)
  replace h0 : w 42 = oO 1 [.ref 43, .null, .null, .int 0, .int 0, .int 0, .int 0, .int 0, .int 0, .int 0, .int 0, .int 0] := h9
  refine st_aload_n (q := 16) dX1_init_15 rfl rfl rfl ?_
  refine k_new (q := 19) (fs := [.int 0, .null, .null, .null, .null, .int 0, .int 0, .null, .null, .null, .null, .int 0, .int 0, .null, .int 0, .int 0, .int 0, .int 0]) (cs' := (3, 180)) dX1_init_16 rfl ci_X5 cl_X1_18 is_X5 iz_X5 (by decide) (by simp [ev_ext, ev_cv]) (by omega) rfl (Nat.le_of_ble_eq_true rfl) (Nat.le_of_ble_eq_true rfl) (fun w h9 r9 => ?_)
  replace h0 := (r9 _ (by omega)).trans h0
  replace g43 := GR.fr gkX4 g43 (fun k h1 h2 => r9 k (by omega))
  replace hF : Fr 42 56 w0 w := fun k hk => (r9 k (by omega)).trans (hF k hk)
  have ob2 := h9
  refine st_dup (q := 20) dX1_init_19 rfl rfl ?_
  refine st_I0 (q := 23) (cs' := (12, 235)) (M' := mX5_init) dX1_init_20 rfl ok_X5_init mk_X5_init ml_X1_20 ⟨(Nat.le_of_ble_eq_true rfl), (Nat.le_of_ble_eq_true rfl)⟩ rfl (Nat.le_of_ble_eq_true rfl) rfl (Nat.le_of_ble_eq_true rfl) (Nat.le_of_ble_eq_true rfl) (c_X5_init (b := 45) ob2 (by decide)) ?_
  intro _ n9 w h9 _
  obtain ⟨rfl, rfl, hZ, r9⟩ := h9
  clear ob2
  replace h0 := (r9 _ (by omega)).trans h0
  replace g43 := GR.fr gkX4 g43 (fun k h1 h2 => r9 k (by omega))
  replace hF : Fr 42 56 w0 w := fun k hk => (r9 k (by omega)).trans (hF k hk)
  have g45 := hZ
  refine k_putF (q := 26) dX1_init_23 rfl fl_X1_21 rfl (by omega) h0 rfl (fun _ => rfl) (fun _ => rfl) rfl (fun w h9 r9 => ?_)
  replace g43 := GR.fr gkX4 g43 (fun k h1 h2 => r9 k (by omega))
  replace g45 := GR.fr gkX5 g45 (fun k h1 h2 => r9 k (by omega))
  replace hF : Fr 42 56 w0 w := fun k hk => (r9 k (by omega)).trans (hF k hk)
  replace h0 : w 42 = oO 1 [.ref 43, .ref 45, .null, .int 0, .int 0, .int 0, .int 0, .int 0, .int 0, .int 0, .int 0, .int 0] := h9
  refine st_aload_n (q := 27) dX1_init_26 rfl rfl rfl ?_
  refine st_iconst (q := 28) dX1_init_27 rfl ic_3 ?_
  refine k_newI (q := 30) (N := 3) (cs' := (13, 238)) dX1_init_28 rfl (by decide) (by decide) (by decide) (by omega) rfl (Nat.le_of_ble_eq_true rfl) (Nat.le_of_ble_eq_true rfl) (fun w h9 r9 => ?_)
  replace h0 := (r9 _ (by omega)).trans h0
  replace g43 := GR.fr gkX4 g43 (fun k h1 h2 => r9 k (by omega))
  replace g45 := GR.fr gkX5 g45 (fun k h1 h2 => r9 k (by omega))
  replace hF : Fr 42 56 w0 w := fun k hk => (r9 k (by omega)).trans (hF k hk)
  have q55 := h9
  refine k_putF (q := 33) dX1_init_30 rfl fl_X1_25 rfl (by omega) h0 rfl (fun _ => rfl) (fun _ => rfl) rfl (fun w h9 r9 => ?_)
  replace g43 := GR.fr gkX4 g43 (fun k h1 h2 => r9 k (by omega))
  replace g45 := GR.fr gkX5 g45 (fun k h1 h2 => r9 k (by omega))
  replace q55 := (r9 _ (by omega)).trans q55
  replace hF : Fr 42 56 w0 w := fun k hk => (r9 k (by omega)).trans (hF k hk)
  replace h0 : w 42 = oO 1 [.ref 43, .ref 45, .ref 55, .int 0, .int 0, .int 0, .int 0, .int 0, .int 0, .int 0, .int 0, .int 0] := h9
  refine st_return dX1_init_33 rfl ?_
  refine ⟨rfl, rfl, ⟨⟨by omega, h0, fun i o ty len hi => ?_⟩, g43.wk (by omega), g45.wk (by omega)⟩, hF⟩
  match i, hi with
  | 2, hi => cases hi; exact ⟨_, q55, fun j _ => rfl⟩
  | 0, hi => cases hi
  | 1, hi => cases hi
  | 3, hi => cases hi
  | 4, hi => cases hi
  | 5, hi => cases hi
  | 6, hi => cases hi
  | 7, hi => cases hi
  | 8, hi => cases hi
  | 9, hi => cases hi
  | 10, hi => cases hi
  | 11, hi => cases hi
  | _ + 12, hi => cases hi
set_option maxRecDepth 100000 in
set_option maxHeartbeats 4000000 in
theorem c_X6_init {E : ev_E} {w : ev_W} (h0 : w 0 = oO 6 [.null, .null, .null, .int 0, .null, .int 0, .null, .null, .null, .int 0]) : Ct E mX6_init [.ref 0] 1 w (fun a m u => a = none ∧ m = 70 ∧ XI z0T t5T (fun _ => t5T) z0T z0T (fun _ => z0T) 70 u) := by
  refine Ct.of 1 (by decide) (Nat.le_of_ble_eq_true rfl) rfl ?_
  refine st_aload_n (q := 1) dX6_init_0 rfl rfl rfl ?_
  refine st_objInit (q := 4) dX6_init_1 rfl ml_X6_1 jo_i jo_c (Nat.le_of_ble_eq_true rfl) (Nat.le_of_ble_eq_true rfl) (Nat.le_of_ble_eq_true rfl) ?_
  refine st_aload_n (q := 5) dX6_init_4 rfl rfl rfl ?_
  refine k_new (q := 8) (fs := [.int 0, .null, .null, .null, .null, .int 0, .int 0, .null, .null, .null, .null, .int 0, .int 0, .null, .int 0, .int 0, .int 0, .int 0]) (cs' := (1, 18)) dX6_init_5 rfl ci_X5 cl_X6_7 is_X5 iz_X5 (by decide) (by simp [ev_ext, ev_cv]) (by omega) rfl (Nat.le_of_ble_eq_true rfl) (Nat.le_of_ble_eq_true rfl) (fun w h9 r9 => ?_)
  replace h0 := (r9 _ (by omega)).trans h0
  have ob1 := h9
  refine st_dup (q := 9) dX6_init_8 rfl rfl ?_
  refine st_I0 (q := 12) (cs' := (10, 73)) (M' := mX5_init) dX6_init_9 rfl ok_X5_init mk_X5_init ml_X6_9 ⟨(Nat.le_of_ble_eq_true rfl), (Nat.le_of_ble_eq_true rfl)⟩ rfl (Nat.le_of_ble_eq_true rfl) rfl (Nat.le_of_ble_eq_true rfl) (Nat.le_of_ble_eq_true rfl) (c_X5_init (b := 1) ob1 (by decide)) ?_
  intro _ n9 w h9 _
  obtain ⟨rfl, rfl, hZ, r9⟩ := h9
  clear ob1
  replace h0 := (r9 _ (by omega)).trans h0
  have g1 := hZ
  refine k_putF (q := 15) dX6_init_12 rfl fl_X6_10 rfl (by omega) h0 rfl (fun _ => rfl) (fun _ => rfl) rfl (fun w h9 r9 => ?_)
  replace g1 := GR.fr gkX5 g1 (fun k h1 h2 => r9 k (by omega))
  replace h0 : w 0 = oO 6 [.ref 1, .null, .null, .int 0, .null, .int 0, .null, .null, .null, .int 0] := h9
  refine st_aload_n (q := 16) dX6_init_15 rfl rfl rfl ?_
  refine k_new (q := 19) (fs := [.int 0, .null, .null, .null, .null, .int 0, .int 0, .null, .null, .null, .null, .int 0, .int 0, .null, .int 0, .int 0, .int 0, .int 0]) (cs' := (11, 91)) dX6_init_16 rfl ci_X5 cl_X6_7 is_X5 iz_X5 (by decide) (by simp [ev_ext, ev_cv]) (by omega) rfl (Nat.le_of_ble_eq_true rfl) (Nat.le_of_ble_eq_true rfl) (fun w h9 r9 => ?_)
  replace h0 := (r9 _ (by omega)).trans h0
  replace g1 := GR.fr gkX5 g1 (fun k h1 h2 => r9 k (by omega))
  have ob2 := h9
  refine st_dup (q := 20) dX6_init_19 rfl rfl ?_
  refine st_I0 (q := 23) (cs' := (20, 146)) (M' := mX5_init) dX6_init_20 rfl ok_X5_init mk_X5_init ml_X6_9 ⟨(Nat.le_of_ble_eq_true rfl), (Nat.le_of_ble_eq_true rfl)⟩ rfl (Nat.le_of_ble_eq_true rfl) rfl (Nat.le_of_ble_eq_true rfl) (Nat.le_of_ble_eq_true rfl) (c_X5_init (b := 11) ob2 (by decide)) ?_
  intro _ n9 w h9 _
  obtain ⟨rfl, rfl, hZ, r9⟩ := h9
  clear ob2
  replace h0 := (r9 _ (by omega)).trans h0
  replace g1 := GR.fr gkX5 g1 (fun k h1 h2 => r9 k (by omega))
  have g11 := hZ
  refine k_putF (q := 26) dX6_init_23 rfl fl_X6_16 rfl (by omega) h0 rfl (fun _ => rfl) (fun _ => rfl) rfl (fun w h9 r9 => ?_)
  replace g1 := GR.fr gkX5 g1 (fun k h1 h2 => r9 k (by omega))
  replace g11 := GR.fr gkX5 g11 (fun k h1 h2 => r9 k (by omega))
  replace h0 : w 0 = oO 6 [.ref 1, .ref 11, .null, .int 0, .null, .int 0, .null, .null, .null, .int 0] := h9
  refine st_aload_n (q := 27) dX6_init_26 rfl rfl rfl ?_
  refine st_iconst (q := 28) dX6_init_27 rfl ic_2 ?_
  refine k_newQ (q := 31) (N := 2) (t := 3) (cs' := (21, 148)) dX6_init_28 rfl cl_X6_7 (Or.inl rfl) rfl (by decide) (by decide) (by decide) (by omega) rfl (Nat.le_of_ble_eq_true rfl) (Nat.le_of_ble_eq_true rfl) (fun w h9 r9 => ?_)
  replace h0 := (r9 _ (by omega)).trans h0
  replace g1 := GR.fr gkX5 g1 (fun k h1 h2 => r9 k (by omega))
  replace g11 := GR.fr gkX5 g11 (fun k h1 h2 => r9 k (by omega))
  have q21 := h9
  refine k_putF (q := 34) dX6_init_31 rfl fl_X6_19 rfl (by omega) h0 rfl (fun _ => rfl) (fun _ => rfl) rfl (fun w h9 r9 => ?_)
  replace g1 := GR.fr gkX5 g1 (fun k h1 h2 => r9 k (by omega))
  replace g11 := GR.fr gkX5 g11 (fun k h1 h2 => r9 k (by omega))
  replace q21 := (r9 _ (by omega)).trans q21
  replace h0 : w 0 = oO 6 [.ref 1, .ref 11, .ref 21, .int 0, .null, .int 0, .null, .null, .null, .int 0] := h9
  refine st_iconst (q := 35) dX6_init_34 rfl ic_0 ?_
  refine st_istore_n (q := 36) (L' := [_, _]) dX6_init_35 rfl rfl (Nat.le_of_ble_eq_true rfl) rfl ?_
  refine st_iload_n (q := 37) dX6_init_36 rfl rfl rfl ?_
  refine st_iconst (q := 38) dX6_init_37 rfl ic_2 ?_
  refine st_icmp_ge (q := 41) (tgt := 60) dX6_init_38 rfl rfl (fun c_38 => False.elim (absurd c_38 (by decide))) (fun c_38 => ?_)
  refine st_aload_n (q := 42) dX6_init_41 rfl rfl rfl ?_
  refine st_getfield (q := 45) dX6_init_42 rfl fl_X6_19.g (by omega) h0 rfl ?_
  refine st_iload_n (q := 46) dX6_init_45 rfl rfl rfl ?_
  refine k_new (q := 49) (fs := [.int 0, .null, .null, .null, .null, .int 0, .int 0, .null, .null, .null, .null, .int 0, .int 0, .null, .int 0, .int 0, .int 0, .int 0]) (cs' := (22, 166)) dX6_init_46 rfl ci_X5 cl_X6_7 is_X5 iz_X5 (by decide) (by simp [ev_ext, ev_cv]) (by omega) rfl (Nat.le_of_ble_eq_true rfl) (Nat.le_of_ble_eq_true rfl) (fun w h9 r9 => ?_)
  replace h0 := (r9 _ (by omega)).trans h0
  replace g1 := GR.fr gkX5 g1 (fun k h1 h2 => r9 k (by omega))
  replace g11 := GR.fr gkX5 g11 (fun k h1 h2 => r9 k (by omega))
  replace q21 := (r9 _ (by omega)).trans q21
  have ob3 := h9
  refine st_dup (q := 50) dX6_init_49 rfl rfl ?_
  refine st_I0 (q := 53) (cs' := (31, 221)) (M' := mX5_init) dX6_init_50 rfl ok_X5_init mk_X5_init ml_X6_9 ⟨(Nat.le_of_ble_eq_true rfl), (Nat.le_of_ble_eq_true rfl)⟩ rfl (Nat.le_of_ble_eq_true rfl) rfl (Nat.le_of_ble_eq_true rfl) (Nat.le_of_ble_eq_true rfl) (c_X5_init (b := 22) ob3 (by decide)) ?_
  intro _ n9 w h9 _
  obtain ⟨rfl, rfl, hZ, r9⟩ := h9
  clear ob3
  replace h0 := (r9 _ (by omega)).trans h0
  replace g1 := GR.fr gkX5 g1 (fun k h1 h2 => r9 k (by omega))
  replace g11 := GR.fr gkX5 g11 (fun k h1 h2 => r9 k (by omega))
  replace q21 := (r9 _ (by omega)).trans q21
  have g22 := hZ
  refine k_aast (q := 54) (j := 0) (r := 22) dX6_init_53 rfl (by omega) q21 rfl (by omega) g22.2.1 rfl (ev_ix_nI (j := 0) (by decide) (by decide)) (fun w h9 r9 => ?_)
  replace h0 := (r9 _ (by omega)).trans h0
  replace g1 := GR.fr gkX5 g1 (fun k h1 h2 => r9 k (by omega))
  replace g11 := GR.fr gkX5 g11 (fun k h1 h2 => r9 k (by omega))
  replace g22 := GR.fr gkX5 g22 (fun k h1 h2 => r9 k (by omega))
  replace q21 := h9
  refine st_iinc (q := 57) (L' := [_, _]) dX6_init_54 rfl rfl (nI_succ 0).symm (Nat.le_of_ble_eq_true rfl) rfl ?_
  refine st_goto (q := 36) dX6_init_57 rfl ?_
  refine st_iload_n (q := 37) dX6_init_36 rfl rfl rfl ?_
  refine st_iconst (q := 38) dX6_init_37 rfl ic_2 ?_
  refine st_icmp_ge (q := 41) (tgt := 60) dX6_init_38 rfl rfl (fun c_38 => False.elim (absurd c_38 (by decide))) (fun c_38 => ?_)
  refine st_aload_n (q := 42) dX6_init_41 rfl rfl rfl ?_
  refine st_getfield (q := 45) dX6_init_42 rfl fl_X6_19.g (by omega) h0 rfl ?_
  refine st_iload_n (q := 46) dX6_init_45 rfl rfl rfl ?_
  refine k_new (q := 49) (fs := [.int 0, .null, .null, .null, .null, .int 0, .int 0, .null, .null, .null, .null, .int 0, .int 0, .null, .int 0, .int 0, .int 0, .int 0]) (cs' := (32, 239)) dX6_init_46 rfl ci_X5 cl_X6_7 is_X5 iz_X5 (by decide) (by simp [ev_ext, ev_cv]) (by omega) rfl (Nat.le_of_ble_eq_true rfl) (Nat.le_of_ble_eq_true rfl) (fun w h9 r9 => ?_)
  replace h0 := (r9 _ (by omega)).trans h0
  replace g1 := GR.fr gkX5 g1 (fun k h1 h2 => r9 k (by omega))
  replace g11 := GR.fr gkX5 g11 (fun k h1 h2 => r9 k (by omega))
  replace q21 := (r9 _ (by omega)).trans q21
  replace g22 := GR.fr gkX5 g22 (fun k h1 h2 => r9 k (by omega))
  have ob4 := h9
  refine st_dup (q := 50) dX6_init_49 rfl rfl ?_
  refine st_I0 (q := 53) (cs' := (41, 294)) (M' := mX5_init) dX6_init_50 rfl ok_X5_init mk_X5_init ml_X6_9 ⟨(Nat.le_of_ble_eq_true rfl), (Nat.le_of_ble_eq_true rfl)⟩ rfl (Nat.le_of_ble_eq_true rfl) rfl (Nat.le_of_ble_eq_true rfl) (Nat.le_of_ble_eq_true rfl) (c_X5_init (b := 32) ob4 (by decide)) ?_
  intro _ n9 w h9 _
  obtain ⟨rfl, rfl, hZ, r9⟩ := h9
  clear ob4
  replace h0 := (r9 _ (by omega)).trans h0
  replace g1 := GR.fr gkX5 g1 (fun k h1 h2 => r9 k (by omega))
  replace g11 := GR.fr gkX5 g11 (fun k h1 h2 => r9 k (by omega))
  replace q21 := (r9 _ (by omega)).trans q21
  replace g22 := GR.fr gkX5 g22 (fun k h1 h2 => r9 k (by omega))
  have g32 := hZ
  refine k_aast (q := 54) (j := 1) (r := 32) dX6_init_53 rfl (by omega) q21 rfl (by omega) g32.2.1 rfl (ev_ix_nI (j := 1) (by decide) (by decide)) (fun w h9 r9 => ?_)
  replace h0 := (r9 _ (by omega)).trans h0
  replace g1 := GR.fr gkX5 g1 (fun k h1 h2 => r9 k (by omega))
  replace g11 := GR.fr gkX5 g11 (fun k h1 h2 => r9 k (by omega))
  replace g22 := GR.fr gkX5 g22 (fun k h1 h2 => r9 k (by omega))
  replace g32 := GR.fr gkX5 g32 (fun k h1 h2 => r9 k (by omega))
  replace q21 := h9
  refine st_iinc (q := 57) (L' := [_, _]) dX6_init_54 rfl rfl (nI_succ 1).symm (Nat.le_of_ble_eq_true rfl) rfl ?_
  refine st_goto (q := 36) dX6_init_57 rfl ?_
  refine st_iload_n (q := 37) dX6_init_36 rfl rfl rfl ?_
  refine st_iconst (q := 38) dX6_init_37 rfl ic_2 ?_
  refine st_icmp_ge (q := 41) (tgt := 60) dX6_init_38 rfl rfl (fun c_38 => ?_) (fun c_38 => False.elim (c_38 (by decide)))
  refine st_aload_n (q := 61) dX6_init_60 rfl rfl rfl ?_
  refine k_new (q := 64) (fs := [.null, .null, .null, .int 0, .int 0, .int 0, .int 0, .int 0, .int 0, .int 0, .int 0, .int 0]) (cs' := (42, 306)) dX6_init_61 rfl ci_X1 cl_X6_23 is_X1 iz_X1 (by decide) (by simp [ev_ext, ev_cv]) (by omega) rfl (Nat.le_of_ble_eq_true rfl) (Nat.le_of_ble_eq_true rfl) (fun w h9 r9 => ?_)
  replace h0 := (r9 _ (by omega)).trans h0
  replace g1 := GR.fr gkX5 g1 (fun k h1 h2 => r9 k (by omega))
  replace g11 := GR.fr gkX5 g11 (fun k h1 h2 => r9 k (by omega))
  replace q21 := (r9 _ (by omega)).trans q21
  replace g22 := GR.fr gkX5 g22 (fun k h1 h2 => r9 k (by omega))
  replace g32 := GR.fr gkX5 g32 (fun k h1 h2 => r9 k (by omega))
  have ob5 := h9
  refine st_dup (q := 65) dX6_init_64 rfl rfl ?_
  refine st_IN0 (q := 68) (cs' := (55, 544)) (M' := mX1_init) dX6_init_65 rfl ok_X1_init mk_X1_init ml_X6_25 ⟨(Nat.le_of_ble_eq_true rfl), (Nat.le_of_ble_eq_true rfl)⟩ rfl (Nat.le_of_ble_eq_true rfl) rfl (Nat.le_of_ble_eq_true rfl) (Nat.le_of_ble_eq_true rfl) (c_X1_init ob5) ?_
  intro _ n9 w h9 _
  obtain ⟨rfl, rfl, hZ, r9⟩ := h9
  clear ob5
  replace h0 := (r9 _ (by omega)).trans h0
  replace g1 := GR.fr gkX5 g1 (fun k h1 h2 => r9 k (by omega))
  replace g11 := GR.fr gkX5 g11 (fun k h1 h2 => r9 k (by omega))
  replace q21 := (r9 _ (by omega)).trans q21
  replace g22 := GR.fr gkX5 g22 (fun k h1 h2 => r9 k (by omega))
  replace g32 := GR.fr gkX5 g32 (fun k h1 h2 => r9 k (by omega))
  obtain ⟨g42, g43, g45⟩ := hZ
  refine k_putF (q := 71) dX6_init_68 rfl fl_X6_26 rfl (by omega) h0 rfl (fun _ => rfl) (fun _ => rfl) rfl (fun w h9 r9 => ?_)
  replace g1 := GR.fr gkX5 g1 (fun k h1 h2 => r9 k (by omega))
  replace g11 := GR.fr gkX5 g11 (fun k h1 h2 => r9 k (by omega))
  replace q21 := (r9 _ (by omega)).trans q21
  replace g22 := GR.fr gkX5 g22 (fun k h1 h2 => r9 k (by omega))
  replace g32 := GR.fr gkX5 g32 (fun k h1 h2 => r9 k (by omega))
  replace g42 := RR.fr g42 (r9 _ (by omega)) (r9 _ (by omega))
  replace g43 := GR.fr gkX4 g43 (fun k h1 h2 => r9 k (by omega))
  replace g45 := GR.fr gkX5 g45 (fun k h1 h2 => r9 k (by omega))
  replace h0 : w 0 = oO 6 [.ref 1, .ref 11, .ref 21, .int 0, .ref 42, .int 0, .null, .null, .null, .int 0] := h9
  refine st_aload_n (q := 72) dX6_init_71 rfl rfl rfl ?_
  refine k_new (q := 75) (fs := [.null, .null, .int 0]) (cs' := (56, 547)) dX6_init_72 rfl ci_X3 cl_X6_30 is_X3 iz_X3 (by decide) (by simp [ev_ext, ev_cv]) (by omega) rfl (Nat.le_of_ble_eq_true rfl) (Nat.le_of_ble_eq_true rfl) (fun w h9 r9 => ?_)
  replace h0 := (r9 _ (by omega)).trans h0
  replace g1 := GR.fr gkX5 g1 (fun k h1 h2 => r9 k (by omega))
  replace g11 := GR.fr gkX5 g11 (fun k h1 h2 => r9 k (by omega))
  replace q21 := (r9 _ (by omega)).trans q21
  replace g22 := GR.fr gkX5 g22 (fun k h1 h2 => r9 k (by omega))
  replace g32 := GR.fr gkX5 g32 (fun k h1 h2 => r9 k (by omega))
  replace g42 := RR.fr g42 (r9 _ (by omega)) (r9 _ (by omega))
  replace g43 := GR.fr gkX4 g43 (fun k h1 h2 => r9 k (by omega))
  replace g45 := GR.fr gkX5 g45 (fun k h1 h2 => r9 k (by omega))
  have ob6 := h9
  refine st_dup (q := 76) dX6_init_75 rfl rfl ?_
  refine st_IN0 (q := 79) (cs' := (58, 559)) (M' := mX3_init) dX6_init_76 rfl ok_X3_init mk_X3_init ml_X6_32 ⟨(Nat.le_of_ble_eq_true rfl), (Nat.le_of_ble_eq_true rfl)⟩ rfl (Nat.le_of_ble_eq_true rfl) rfl (Nat.le_of_ble_eq_true rfl) (Nat.le_of_ble_eq_true rfl) (c_X3_init (b := 56) ob6 (by decide)) ?_
  intro _ n9 w h9 _
  obtain ⟨rfl, rfl, hZ, r9⟩ := h9
  clear ob6
  replace h0 := (r9 _ (by omega)).trans h0
  replace g1 := GR.fr gkX5 g1 (fun k h1 h2 => r9 k (by omega))
  replace g11 := GR.fr gkX5 g11 (fun k h1 h2 => r9 k (by omega))
  replace q21 := (r9 _ (by omega)).trans q21
  replace g22 := GR.fr gkX5 g22 (fun k h1 h2 => r9 k (by omega))
  replace g32 := GR.fr gkX5 g32 (fun k h1 h2 => r9 k (by omega))
  replace g42 := RR.fr g42 (r9 _ (by omega)) (r9 _ (by omega))
  replace g43 := GR.fr gkX4 g43 (fun k h1 h2 => r9 k (by omega))
  replace g45 := GR.fr gkX5 g45 (fun k h1 h2 => r9 k (by omega))
  have g56 := hZ
  refine k_putF (q := 82) dX6_init_79 rfl fl_X6_33 rfl (by omega) h0 rfl (fun _ => rfl) (fun _ => rfl) rfl (fun w h9 r9 => ?_)
  replace g1 := GR.fr gkX5 g1 (fun k h1 h2 => r9 k (by omega))
  replace g11 := GR.fr gkX5 g11 (fun k h1 h2 => r9 k (by omega))
  replace q21 := (r9 _ (by omega)).trans q21
  replace g22 := GR.fr gkX5 g22 (fun k h1 h2 => r9 k (by omega))
  replace g32 := GR.fr gkX5 g32 (fun k h1 h2 => r9 k (by omega))
  replace g42 := RR.fr g42 (r9 _ (by omega)) (r9 _ (by omega))
  replace g43 := GR.fr gkX4 g43 (fun k h1 h2 => r9 k (by omega))
  replace g45 := GR.fr gkX5 g45 (fun k h1 h2 => r9 k (by omega))
  replace g56 := GR.fr gkX3 g56 (fun k h1 h2 => r9 k (by omega))
  replace h0 : w 0 = oO 6 [.ref 1, .ref 11, .ref 21, .int 0, .ref 42, .int 0, .ref 56, .null, .null, .int 0] := h9
  refine st_aload_n (q := 83) dX6_init_82 rfl rfl rfl ?_
  refine k_new (q := 86) (fs := [.null, .int 0]) (cs' := (59, 561)) dX6_init_83 rfl ci_X0 cl_X6_37 is_X0 iz_X0 (by decide) (by simp [ev_ext, ev_cv]) (by omega) rfl (Nat.le_of_ble_eq_true rfl) (Nat.le_of_ble_eq_true rfl) (fun w h9 r9 => ?_)
  replace h0 := (r9 _ (by omega)).trans h0
  replace g1 := GR.fr gkX5 g1 (fun k h1 h2 => r9 k (by omega))
  replace g11 := GR.fr gkX5 g11 (fun k h1 h2 => r9 k (by omega))
  replace q21 := (r9 _ (by omega)).trans q21
  replace g22 := GR.fr gkX5 g22 (fun k h1 h2 => r9 k (by omega))
  replace g32 := GR.fr gkX5 g32 (fun k h1 h2 => r9 k (by omega))
  replace g42 := RR.fr g42 (r9 _ (by omega)) (r9 _ (by omega))
  replace g43 := GR.fr gkX4 g43 (fun k h1 h2 => r9 k (by omega))
  replace g45 := GR.fr gkX5 g45 (fun k h1 h2 => r9 k (by omega))
  replace g56 := GR.fr gkX3 g56 (fun k h1 h2 => r9 k (by omega))
  have ob7 := h9
  refine st_dup (q := 87) dX6_init_86 rfl rfl ?_
  refine st_IN0 (q := 90) (cs' := (60, 1212)) (M' := mX0_init) dX6_init_87 rfl ok_X0_init mk_X0_init ml_X6_39 ⟨(Nat.le_of_ble_eq_true rfl), (Nat.le_of_ble_eq_true rfl)⟩ rfl (Nat.le_of_ble_eq_true rfl) rfl (Nat.le_of_ble_eq_true rfl) (Nat.le_of_ble_eq_true rfl) (c_X0_init (b := 59) ob7 (by decide)) ?_
  intro _ n9 w h9 _
  obtain ⟨rfl, rfl, hZ, r9⟩ := h9
  clear ob7
  replace h0 := (r9 _ (by omega)).trans h0
  replace g1 := GR.fr gkX5 g1 (fun k h1 h2 => r9 k (by omega))
  replace g11 := GR.fr gkX5 g11 (fun k h1 h2 => r9 k (by omega))
  replace q21 := (r9 _ (by omega)).trans q21
  replace g22 := GR.fr gkX5 g22 (fun k h1 h2 => r9 k (by omega))
  replace g32 := GR.fr gkX5 g32 (fun k h1 h2 => r9 k (by omega))
  replace g42 := RR.fr g42 (r9 _ (by omega)) (r9 _ (by omega))
  replace g43 := GR.fr gkX4 g43 (fun k h1 h2 => r9 k (by omega))
  replace g45 := GR.fr gkX5 g45 (fun k h1 h2 => r9 k (by omega))
  replace g56 := GR.fr gkX3 g56 (fun k h1 h2 => r9 k (by omega))
  have g59 := hZ
  refine k_putF (q := 93) dX6_init_90 rfl fl_X6_40 rfl (by omega) h0 rfl (fun _ => rfl) (fun _ => rfl) rfl (fun w h9 r9 => ?_)
  replace g1 := GR.fr gkX5 g1 (fun k h1 h2 => r9 k (by omega))
  replace g11 := GR.fr gkX5 g11 (fun k h1 h2 => r9 k (by omega))
  replace q21 := (r9 _ (by omega)).trans q21
  replace g22 := GR.fr gkX5 g22 (fun k h1 h2 => r9 k (by omega))
  replace g32 := GR.fr gkX5 g32 (fun k h1 h2 => r9 k (by omega))
  replace g42 := RR.fr g42 (r9 _ (by omega)) (r9 _ (by omega))
  replace g43 := GR.fr gkX4 g43 (fun k h1 h2 => r9 k (by omega))
  replace g45 := GR.fr gkX5 g45 (fun k h1 h2 => r9 k (by omega))
  replace g56 := GR.fr gkX3 g56 (fun k h1 h2 => r9 k (by omega))
  replace g59 := GR.fr gkX0 g59 (fun k h1 h2 => r9 k (by omega))
  replace h0 : w 0 = oO 6 [.ref 1, .ref 11, .ref 21, .int 0, .ref 42, .int 0, .ref 56, .ref 59, .null, .int 0] := h9
  refine st_aload_n (q := 94) dX6_init_93 rfl rfl rfl ?_
  refine st_iconst (q := 95) dX6_init_94 rfl ic_4 ?_
  refine k_newQ (q := 98) (N := 4) (t := 4) (cs' := (61, 1216)) dX6_init_95 rfl cl_X6_44 (Or.inr rfl) rfl (by decide) (by decide) (by decide) (by omega) rfl (Nat.le_of_ble_eq_true rfl) (Nat.le_of_ble_eq_true rfl) (fun w h9 r9 => ?_)
  replace h0 := (r9 _ (by omega)).trans h0
  replace g1 := GR.fr gkX5 g1 (fun k h1 h2 => r9 k (by omega))
  replace g11 := GR.fr gkX5 g11 (fun k h1 h2 => r9 k (by omega))
  replace q21 := (r9 _ (by omega)).trans q21
  replace g22 := GR.fr gkX5 g22 (fun k h1 h2 => r9 k (by omega))
  replace g32 := GR.fr gkX5 g32 (fun k h1 h2 => r9 k (by omega))
  replace g42 := RR.fr g42 (r9 _ (by omega)) (r9 _ (by omega))
  replace g43 := GR.fr gkX4 g43 (fun k h1 h2 => r9 k (by omega))
  replace g45 := GR.fr gkX5 g45 (fun k h1 h2 => r9 k (by omega))
  replace g56 := GR.fr gkX3 g56 (fun k h1 h2 => r9 k (by omega))
  replace g59 := GR.fr gkX0 g59 (fun k h1 h2 => r9 k (by omega))
  have q61 := h9
  refine k_putF (q := 101) dX6_init_98 rfl fl_X6_46 rfl (by omega) h0 rfl (fun _ => rfl) (fun _ => rfl) rfl (fun w h9 r9 => ?_)
  replace g1 := GR.fr gkX5 g1 (fun k h1 h2 => r9 k (by omega))
  replace g11 := GR.fr gkX5 g11 (fun k h1 h2 => r9 k (by omega))
  replace q21 := (r9 _ (by omega)).trans q21
  replace g22 := GR.fr gkX5 g22 (fun k h1 h2 => r9 k (by omega))
  replace g32 := GR.fr gkX5 g32 (fun k h1 h2 => r9 k (by omega))
  replace g42 := RR.fr g42 (r9 _ (by omega)) (r9 _ (by omega))
  replace g43 := GR.fr gkX4 g43 (fun k h1 h2 => r9 k (by omega))
  replace g45 := GR.fr gkX5 g45 (fun k h1 h2 => r9 k (by omega))
  replace g56 := GR.fr gkX3 g56 (fun k h1 h2 => r9 k (by omega))
  replace g59 := GR.fr gkX0 g59 (fun k h1 h2 => r9 k (by omega))
  replace q61 := (r9 _ (by omega)).trans q61
  replace h0 : w 0 = oO 6 [.ref 1, .ref 11, .ref 21, .int 0, .ref 42, .int 0, .ref 56, .ref 59, .ref 61, .int 0] := h9
  refine st_iconst (q := 102) dX6_init_101 rfl ic_0 ?_
  refine st_istore_n (q := 103) (L' := [_, _]) dX6_init_102 rfl rfl (Nat.le_of_ble_eq_true rfl) rfl ?_
  refine st_iload_n (q := 104) dX6_init_103 rfl rfl rfl ?_
  refine st_iconst (q := 105) dX6_init_104 rfl ic_4 ?_
  refine st_icmp_ge (q := 108) (tgt := 127) dX6_init_105 rfl rfl (fun c_105 => False.elim (absurd c_105 (by decide))) (fun c_105 => ?_)
  refine st_aload_n (q := 109) dX6_init_108 rfl rfl rfl ?_
  refine st_getfield (q := 112) dX6_init_109 rfl fl_X6_46.g (by omega) h0 rfl ?_
  refine st_iload_n (q := 113) dX6_init_112 rfl rfl rfl ?_
  refine k_new (q := 116) (fs := [.null, .int 0, .int 0, .int 0]) (cs' := (62, 1220)) dX6_init_113 rfl ci_X2 cl_X6_44 is_X2 iz_X2 (by decide) (by simp [ev_ext, ev_cv]) (by omega) rfl (Nat.le_of_ble_eq_true rfl) (Nat.le_of_ble_eq_true rfl) (fun w h9 r9 => ?_)
  replace h0 := (r9 _ (by omega)).trans h0
  replace g1 := GR.fr gkX5 g1 (fun k h1 h2 => r9 k (by omega))
  replace g11 := GR.fr gkX5 g11 (fun k h1 h2 => r9 k (by omega))
  replace q21 := (r9 _ (by omega)).trans q21
  replace g22 := GR.fr gkX5 g22 (fun k h1 h2 => r9 k (by omega))
  replace g32 := GR.fr gkX5 g32 (fun k h1 h2 => r9 k (by omega))
  replace g42 := RR.fr g42 (r9 _ (by omega)) (r9 _ (by omega))
  replace g43 := GR.fr gkX4 g43 (fun k h1 h2 => r9 k (by omega))
  replace g45 := GR.fr gkX5 g45 (fun k h1 h2 => r9 k (by omega))
  replace g56 := GR.fr gkX3 g56 (fun k h1 h2 => r9 k (by omega))
  replace g59 := GR.fr gkX0 g59 (fun k h1 h2 => r9 k (by omega))
  replace q61 := (r9 _ (by omega)).trans q61
  have ob8 := h9
  refine st_dup (q := 117) dX6_init_116 rfl rfl ?_
  refine st_IN0 (q := 120) (cs' := (63, 1260)) (M' := mX2_init) dX6_init_117 rfl ok_X2_init mk_X2_init ml_X6_50 ⟨(Nat.le_of_ble_eq_true rfl), (Nat.le_of_ble_eq_true rfl)⟩ rfl (Nat.le_of_ble_eq_true rfl) rfl (Nat.le_of_ble_eq_true rfl) (Nat.le_of_ble_eq_true rfl) (c_X2_init (b := 62) ob8 (by decide)) ?_
  intro _ n9 w h9 _
  obtain ⟨rfl, rfl, hZ, r9⟩ := h9
  clear ob8
  replace h0 := (r9 _ (by omega)).trans h0
  replace g1 := GR.fr gkX5 g1 (fun k h1 h2 => r9 k (by omega))
  replace g11 := GR.fr gkX5 g11 (fun k h1 h2 => r9 k (by omega))
  replace q21 := (r9 _ (by omega)).trans q21
  replace g22 := GR.fr gkX5 g22 (fun k h1 h2 => r9 k (by omega))
  replace g32 := GR.fr gkX5 g32 (fun k h1 h2 => r9 k (by omega))
  replace g42 := RR.fr g42 (r9 _ (by omega)) (r9 _ (by omega))
  replace g43 := GR.fr gkX4 g43 (fun k h1 h2 => r9 k (by omega))
  replace g45 := GR.fr gkX5 g45 (fun k h1 h2 => r9 k (by omega))
  replace g56 := GR.fr gkX3 g56 (fun k h1 h2 => r9 k (by omega))
  replace g59 := GR.fr gkX0 g59 (fun k h1 h2 => r9 k (by omega))
  replace q61 := (r9 _ (by omega)).trans q61
  have g62 := hZ
  refine k_aast (q := 121) (j := 0) (r := 62) dX6_init_120 rfl (by omega) q61 rfl (by omega) g62.2.1 rfl (ev_ix_nI (j := 0) (by decide) (by decide)) (fun w h9 r9 => ?_)
  replace h0 := (r9 _ (by omega)).trans h0
  replace g1 := GR.fr gkX5 g1 (fun k h1 h2 => r9 k (by omega))
  replace g11 := GR.fr gkX5 g11 (fun k h1 h2 => r9 k (by omega))
  replace q21 := (r9 _ (by omega)).trans q21
  replace g22 := GR.fr gkX5 g22 (fun k h1 h2 => r9 k (by omega))
  replace g32 := GR.fr gkX5 g32 (fun k h1 h2 => r9 k (by omega))
  replace g42 := RR.fr g42 (r9 _ (by omega)) (r9 _ (by omega))
  replace g43 := GR.fr gkX4 g43 (fun k h1 h2 => r9 k (by omega))
  replace g45 := GR.fr gkX5 g45 (fun k h1 h2 => r9 k (by omega))
  replace g56 := GR.fr gkX3 g56 (fun k h1 h2 => r9 k (by omega))
  replace g59 := GR.fr gkX0 g59 (fun k h1 h2 => r9 k (by omega))
  replace g62 := GR.fr gkX2 g62 (fun k h1 h2 => r9 k (by omega))
  replace q61 := h9
  refine st_iinc (q := 124) (L' := [_, _]) dX6_init_121 rfl rfl (nI_succ 0).symm (Nat.le_of_ble_eq_true rfl) rfl ?_
  refine st_goto (q := 103) dX6_init_124 rfl ?_
  refine st_iload_n (q := 104) dX6_init_103 rfl rfl rfl ?_
  refine st_iconst (q := 105) dX6_init_104 rfl ic_4 ?_
  refine st_icmp_ge (q := 108) (tgt := 127) dX6_init_105 rfl rfl (fun c_105 => False.elim (absurd c_105 (by decide))) (fun c_105 => ?_)
  refine st_aload_n (q := 109) dX6_init_108 rfl rfl rfl ?_
  refine st_getfield (q := 112) dX6_init_109 rfl fl_X6_46.g (by omega) h0 rfl ?_
  refine st_iload_n (q := 113) dX6_init_112 rfl rfl rfl ?_
  refine k_new (q := 116) (fs := [.null, .int 0, .int 0, .int 0]) (cs' := (64, 1264)) dX6_init_113 rfl ci_X2 cl_X6_44 is_X2 iz_X2 (by decide) (by simp [ev_ext, ev_cv]) (by omega) rfl (Nat.le_of_ble_eq_true rfl) (Nat.le_of_ble_eq_true rfl) (fun w h9 r9 => ?_)
  replace h0 := (r9 _ (by omega)).trans h0
  replace g1 := GR.fr gkX5 g1 (fun k h1 h2 => r9 k (by omega))
  replace g11 := GR.fr gkX5 g11 (fun k h1 h2 => r9 k (by omega))
  replace q21 := (r9 _ (by omega)).trans q21
  replace g22 := GR.fr gkX5 g22 (fun k h1 h2 => r9 k (by omega))
  replace g32 := GR.fr gkX5 g32 (fun k h1 h2 => r9 k (by omega))
  replace g42 := RR.fr g42 (r9 _ (by omega)) (r9 _ (by omega))
  replace g43 := GR.fr gkX4 g43 (fun k h1 h2 => r9 k (by omega))
  replace g45 := GR.fr gkX5 g45 (fun k h1 h2 => r9 k (by omega))
  replace g56 := GR.fr gkX3 g56 (fun k h1 h2 => r9 k (by omega))
  replace g59 := GR.fr gkX0 g59 (fun k h1 h2 => r9 k (by omega))
  replace q61 := (r9 _ (by omega)).trans q61
  replace g62 := GR.fr gkX2 g62 (fun k h1 h2 => r9 k (by omega))
  have ob9 := h9
  refine st_dup (q := 117) dX6_init_116 rfl rfl ?_
  refine st_IN0 (q := 120) (cs' := (65, 1304)) (M' := mX2_init) dX6_init_117 rfl ok_X2_init mk_X2_init ml_X6_50 ⟨(Nat.le_of_ble_eq_true rfl), (Nat.le_of_ble_eq_true rfl)⟩ rfl (Nat.le_of_ble_eq_true rfl) rfl (Nat.le_of_ble_eq_true rfl) (Nat.le_of_ble_eq_true rfl) (c_X2_init (b := 64) ob9 (by decide)) ?_
  intro _ n9 w h9 _
  obtain ⟨rfl, rfl, hZ, r9⟩ := h9
  clear ob9
  replace h0 := (r9 _ (by omega)).trans h0
  replace g1 := GR.fr gkX5 g1 (fun k h1 h2 => r9 k (by omega))
  replace g11 := GR.fr gkX5 g11 (fun k h1 h2 => r9 k (by omega))
  replace q21 := (r9 _ (by omega)).trans q21
  replace g22 := GR.fr gkX5 g22 (fun k h1 h2 => r9 k (by omega))
  replace g32 := GR.fr gkX5 g32 (fun k h1 h2 => r9 k (by omega))
  replace g42 := RR.fr g42 (r9 _ (by omega)) (r9 _ (by omega))
  replace g43 := GR.fr gkX4 g43 (fun k h1 h2 => r9 k (by omega))
  replace g45 := GR.fr gkX5 g45 (fun k h1 h2 => r9 k (by omega))
  replace g56 := GR.fr gkX3 g56 (fun k h1 h2 => r9 k (by omega))
  replace g59 := GR.fr gkX0 g59 (fun k h1 h2 => r9 k (by omega))
  replace q61 := (r9 _ (by omega)).trans q61
  replace g62 := GR.fr gkX2 g62 (fun k h1 h2 => r9 k (by omega))
  have g64 := hZ
  refine k_aast (q := 121) (j := 1) (r := 64) dX6_init_120 rfl (by omega) q61 rfl (by omega) g64.2.1 rfl (ev_ix_nI (j := 1) (by decide) (by decide)) (fun w h9 r9 => ?_)
  replace h0 := (r9 _ (by omega)).trans h0
  replace g1 := GR.fr gkX5 g1 (fun k h1 h2 => r9 k (by omega))
  replace g11 := GR.fr gkX5 g11 (fun k h1 h2 => r9 k (by omega))
  replace q21 := (r9 _ (by omega)).trans q21
  replace g22 := GR.fr gkX5 g22 (fun k h1 h2 => r9 k (by omega))
  replace g32 := GR.fr gkX5 g32 (fun k h1 h2 => r9 k (by omega))
  replace g42 := RR.fr g42 (r9 _ (by omega)) (r9 _ (by omega))
  replace g43 := GR.fr gkX4 g43 (fun k h1 h2 => r9 k (by omega))
  replace g45 := GR.fr gkX5 g45 (fun k h1 h2 => r9 k (by omega))
  replace g56 := GR.fr gkX3 g56 (fun k h1 h2 => r9 k (by omega))
  replace g59 := GR.fr gkX0 g59 (fun k h1 h2 => r9 k (by omega))
  replace g62 := GR.fr gkX2 g62 (fun k h1 h2 => r9 k (by omega))
  replace g64 := GR.fr gkX2 g64 (fun k h1 h2 => r9 k (by omega))
  replace q61 := h9
  refine st_iinc (q := 124) (L' := [_, _]) dX6_init_121 rfl rfl (nI_succ 1).symm (Nat.le_of_ble_eq_true rfl) rfl ?_
  refine st_goto (q := 103) dX6_init_124 rfl ?_
  refine st_iload_n (q := 104) dX6_init_103 rfl rfl rfl ?_
  refine st_iconst (q := 105) dX6_init_104 rfl ic_4 ?_
  refine st_icmp_ge (q := 108) (tgt := 127) dX6_init_105 rfl rfl (fun c_105 => False.elim (absurd c_105 (by decide))) (fun c_105 => ?_)
  refine st_aload_n (q := 109) dX6_init_108 rfl rfl rfl ?_
  refine st_getfield (q := 112) dX6_init_109 rfl fl_X6_46.g (by omega) h0 rfl ?_
  refine st_iload_n (q := 113) dX6_init_112 rfl rfl rfl ?_
  refine k_new (q := 116) (fs := [.null, .int 0, .int 0, .int 0]) (cs' := (66, 1308)) dX6_init_113 rfl ci_X2 cl_X6_44 is_X2 iz_X2 (by decide) (by simp [ev_ext, ev_cv]) (by omega) rfl (Nat.le_of_ble_eq_true rfl) (Nat.le_of_ble_eq_true rfl) (fun w h9 r9 => ?_)
  replace h0 := (r9 _ (by omega)).trans h0
  replace g1 := GR.fr gkX5 g1 (fun k h1 h2 => r9 k (by omega))
  replace g11 := GR.fr gkX5 g11 (fun k h1 h2 => r9 k (by omega))
  replace q21 := (r9 _ (by omega)).trans q21
  replace g22 := GR.fr gkX5 g22 (fun k h1 h2 => r9 k (by omega))
  replace g32 := GR.fr gkX5 g32 (fun k h1 h2 => r9 k (by omega))
  replace g42 := RR.fr g42 (r9 _ (by omega)) (r9 _ (by omega))
  replace g43 := GR.fr gkX4 g43 (fun k h1 h2 => r9 k (by omega))
  replace g45 := GR.fr gkX5 g45 (fun k h1 h2 => r9 k (by omega))
  replace g56 := GR.fr gkX3 g56 (fun k h1 h2 => r9 k (by omega))
  replace g59 := GR.fr gkX0 g59 (fun k h1 h2 => r9 k (by omega))
  replace q61 := (r9 _ (by omega)).trans q61
  replace g62 := GR.fr gkX2 g62 (fun k h1 h2 => r9 k (by omega))
  replace g64 := GR.fr gkX2 g64 (fun k h1 h2 => r9 k (by omega))
  have ob10 := h9
  refine st_dup (q := 117) dX6_init_116 rfl rfl ?_
  refine st_IN0 (q := 120) (cs' := (67, 1348)) (M' := mX2_init) dX6_init_117 rfl ok_X2_init mk_X2_init ml_X6_50 ⟨(Nat.le_of_ble_eq_true rfl), (Nat.le_of_ble_eq_true rfl)⟩ rfl (Nat.le_of_ble_eq_true rfl) rfl (Nat.le_of_ble_eq_true rfl) (Nat.le_of_ble_eq_true rfl) (c_X2_init (b := 66) ob10 (by decide)) ?_
  intro _ n9 w h9 _
  obtain ⟨rfl, rfl, hZ, r9⟩ := h9
  clear ob10
  replace h0 := (r9 _ (by omega)).trans h0
  replace g1 := GR.fr gkX5 g1 (fun k h1 h2 => r9 k (by omega))
  replace g11 := GR.fr gkX5 g11 (fun k h1 h2 => r9 k (by omega))
  replace q21 := (r9 _ (by omega)).trans q21
  replace g22 := GR.fr gkX5 g22 (fun k h1 h2 => r9 k (by omega))
  replace g32 := GR.fr gkX5 g32 (fun k h1 h2 => r9 k (by omega))
  replace g42 := RR.fr g42 (r9 _ (by omega)) (r9 _ (by omega))
  replace g43 := GR.fr gkX4 g43 (fun k h1 h2 => r9 k (by omega))
  replace g45 := GR.fr gkX5 g45 (fun k h1 h2 => r9 k (by omega))
  replace g56 := GR.fr gkX3 g56 (fun k h1 h2 => r9 k (by omega))
  replace g59 := GR.fr gkX0 g59 (fun k h1 h2 => r9 k (by omega))
  replace q61 := (r9 _ (by omega)).trans q61
  replace g62 := GR.fr gkX2 g62 (fun k h1 h2 => r9 k (by omega))
  replace g64 := GR.fr gkX2 g64 (fun k h1 h2 => r9 k (by omega))
  have g66 := hZ
  refine k_aast (q := 121) (j := 2) (r := 66) dX6_init_120 rfl (by omega) q61 rfl (by omega) g66.2.1 rfl (ev_ix_nI (j := 2) (by decide) (by decide)) (fun w h9 r9 => ?_)
  replace h0 := (r9 _ (by omega)).trans h0
  replace g1 := GR.fr gkX5 g1 (fun k h1 h2 => r9 k (by omega))
  replace g11 := GR.fr gkX5 g11 (fun k h1 h2 => r9 k (by omega))
  replace q21 := (r9 _ (by omega)).trans q21
  replace g22 := GR.fr gkX5 g22 (fun k h1 h2 => r9 k (by omega))
  replace g32 := GR.fr gkX5 g32 (fun k h1 h2 => r9 k (by omega))
  replace g42 := RR.fr g42 (r9 _ (by omega)) (r9 _ (by omega))
  replace g43 := GR.fr gkX4 g43 (fun k h1 h2 => r9 k (by omega))
  replace g45 := GR.fr gkX5 g45 (fun k h1 h2 => r9 k (by omega))
  replace g56 := GR.fr gkX3 g56 (fun k h1 h2 => r9 k (by omega))
  replace g59 := GR.fr gkX0 g59 (fun k h1 h2 => r9 k (by omega))
  replace g62 := GR.fr gkX2 g62 (fun k h1 h2 => r9 k (by omega))
  replace g64 := GR.fr gkX2 g64 (fun k h1 h2 => r9 k (by omega))
  replace g66 := GR.fr gkX2 g66 (fun k h1 h2 => r9 k (by omega))
  replace q61 := h9
  refine st_iinc (q := 124) (L' := [_, _]) dX6_init_121 rfl rfl (nI_succ 2).symm (Nat.le_of_ble_eq_true rfl) rfl ?_
  refine st_goto (q := 103) dX6_init_124 rfl ?_
  refine st_iload_n (q := 104) dX6_init_103 rfl rfl rfl ?_
  refine st_iconst (q := 105) dX6_init_104 rfl ic_4 ?_
  refine st_icmp_ge (q := 108) (tgt := 127) dX6_init_105 rfl rfl (fun c_105 => False.elim (absurd c_105 (by decide))) (fun c_105 => ?_)
  refine st_aload_n (q := 109) dX6_init_108 rfl rfl rfl ?_
  refine st_getfield (q := 112) dX6_init_109 rfl fl_X6_46.g (by omega) h0 rfl ?_
  refine st_iload_n (q := 113) dX6_init_112 rfl rfl rfl ?_
  refine k_new (q := 116) (fs := [.null, .int 0, .int 0, .int 0]) (cs' := (68, 1352)) dX6_init_113 rfl ci_X2 cl_X6_44 is_X2 iz_X2 (by decide) (by simp [ev_ext, ev_cv]) (by omega) rfl (Nat.le_of_ble_eq_true rfl) (Nat.le_of_ble_eq_true rfl) (fun w h9 r9 => ?_)
  replace h0 := (r9 _ (by omega)).trans h0
  replace g1 := GR.fr gkX5 g1 (fun k h1 h2 => r9 k (by omega))
  replace g11 := GR.fr gkX5 g11 (fun k h1 h2 => r9 k (by omega))
  replace q21 := (r9 _ (by omega)).trans q21
  replace g22 := GR.fr gkX5 g22 (fun k h1 h2 => r9 k (by omega))
  replace g32 := GR.fr gkX5 g32 (fun k h1 h2 => r9 k (by omega))
  replace g42 := RR.fr g42 (r9 _ (by omega)) (r9 _ (by omega))
  replace g43 := GR.fr gkX4 g43 (fun k h1 h2 => r9 k (by omega))
  replace g45 := GR.fr gkX5 g45 (fun k h1 h2 => r9 k (by omega))
  replace g56 := GR.fr gkX3 g56 (fun k h1 h2 => r9 k (by omega))
  replace g59 := GR.fr gkX0 g59 (fun k h1 h2 => r9 k (by omega))
  replace q61 := (r9 _ (by omega)).trans q61
  replace g62 := GR.fr gkX2 g62 (fun k h1 h2 => r9 k (by omega))
  replace g64 := GR.fr gkX2 g64 (fun k h1 h2 => r9 k (by omega))
  replace g66 := GR.fr gkX2 g66 (fun k h1 h2 => r9 k (by omega))
  have ob11 := h9
  refine st_dup (q := 117) dX6_init_116 rfl rfl ?_
  refine st_IN0 (q := 120) (cs' := (69, 1392)) (M' := mX2_init) dX6_init_117 rfl ok_X2_init mk_X2_init ml_X6_50 ⟨(Nat.le_of_ble_eq_true rfl), (Nat.le_of_ble_eq_true rfl)⟩ rfl (Nat.le_of_ble_eq_true rfl) rfl (Nat.le_of_ble_eq_true rfl) (Nat.le_of_ble_eq_true rfl) (c_X2_init (b := 68) ob11 (by decide)) ?_
  intro _ n9 w h9 _
  obtain ⟨rfl, rfl, hZ, r9⟩ := h9
  clear ob11
  replace h0 := (r9 _ (by omega)).trans h0
  replace g1 := GR.fr gkX5 g1 (fun k h1 h2 => r9 k (by omega))
  replace g11 := GR.fr gkX5 g11 (fun k h1 h2 => r9 k (by omega))
  replace q21 := (r9 _ (by omega)).trans q21
  replace g22 := GR.fr gkX5 g22 (fun k h1 h2 => r9 k (by omega))
  replace g32 := GR.fr gkX5 g32 (fun k h1 h2 => r9 k (by omega))
  replace g42 := RR.fr g42 (r9 _ (by omega)) (r9 _ (by omega))
  replace g43 := GR.fr gkX4 g43 (fun k h1 h2 => r9 k (by omega))
  replace g45 := GR.fr gkX5 g45 (fun k h1 h2 => r9 k (by omega))
  replace g56 := GR.fr gkX3 g56 (fun k h1 h2 => r9 k (by omega))
  replace g59 := GR.fr gkX0 g59 (fun k h1 h2 => r9 k (by omega))
  replace q61 := (r9 _ (by omega)).trans q61
  replace g62 := GR.fr gkX2 g62 (fun k h1 h2 => r9 k (by omega))
  replace g64 := GR.fr gkX2 g64 (fun k h1 h2 => r9 k (by omega))
  replace g66 := GR.fr gkX2 g66 (fun k h1 h2 => r9 k (by omega))
  have g68 := hZ
  refine k_aast (q := 121) (j := 3) (r := 68) dX6_init_120 rfl (by omega) q61 rfl (by omega) g68.2.1 rfl (ev_ix_nI (j := 3) (by decide) (by decide)) (fun w h9 r9 => ?_)
  replace h0 := (r9 _ (by omega)).trans h0
  replace g1 := GR.fr gkX5 g1 (fun k h1 h2 => r9 k (by omega))
  replace g11 := GR.fr gkX5 g11 (fun k h1 h2 => r9 k (by omega))
  replace q21 := (r9 _ (by omega)).trans q21
  replace g22 := GR.fr gkX5 g22 (fun k h1 h2 => r9 k (by omega))
  replace g32 := GR.fr gkX5 g32 (fun k h1 h2 => r9 k (by omega))
  replace g42 := RR.fr g42 (r9 _ (by omega)) (r9 _ (by omega))
  replace g43 := GR.fr gkX4 g43 (fun k h1 h2 => r9 k (by omega))
  replace g45 := GR.fr gkX5 g45 (fun k h1 h2 => r9 k (by omega))
  replace g56 := GR.fr gkX3 g56 (fun k h1 h2 => r9 k (by omega))
  replace g59 := GR.fr gkX0 g59 (fun k h1 h2 => r9 k (by omega))
  replace g62 := GR.fr gkX2 g62 (fun k h1 h2 => r9 k (by omega))
  replace g64 := GR.fr gkX2 g64 (fun k h1 h2 => r9 k (by omega))
  replace g66 := GR.fr gkX2 g66 (fun k h1 h2 => r9 k (by omega))
  replace g68 := GR.fr gkX2 g68 (fun k h1 h2 => r9 k (by omega))
  replace q61 := h9
  refine st_iinc (q := 124) (L' := [_, _]) dX6_init_121 rfl rfl (nI_succ 3).symm (Nat.le_of_ble_eq_true rfl) rfl ?_
  refine st_goto (q := 103) dX6_init_124 rfl ?_
  refine st_iload_n (q := 104) dX6_init_103 rfl rfl rfl ?_
  refine st_iconst (q := 105) dX6_init_104 rfl ic_4 ?_
  refine st_icmp_ge (q := 108) (tgt := 127) dX6_init_105 rfl rfl (fun c_105 => ?_) (fun c_105 => False.elim (c_105 (by decide)))
  refine st_return dX6_init_127 rfl ?_
  refine ⟨rfl, rfl, Nat.le_refl _, ⟨by omega, h0, fun i o ty len hi => ?_⟩, g1.wk (by omega), ⟨_, g11.wk (by omega)⟩, ⟨_, q21, rfl, rfl⟩, fun k hk => ?_, g43.wk (by omega), ⟨_, g42.wk (by omega)⟩, g56.wk (by omega), ⟨_, g59.wk (by omega)⟩, ⟨_, q61, fun k hk => ?_⟩, fun k hk => ?_, ⟨_, g45.wk (by omega)⟩⟩
  · match i, hi with
    | 0, hi => cases hi
    | 1, hi => cases hi
    | 2, hi => cases hi
    | 3, hi => cases hi
    | 4, hi => cases hi
    | 5, hi => cases hi
    | 6, hi => cases hi
    | 7, hi => cases hi
    | 8, hi => cases hi
    | 9, hi => cases hi
    | _ + 10, hi => cases hi
  · match k, hk with
    | 0, _ => exact g22.wk (by omega)
    | 1, _ => exact g32.wk (by omega)
  · match k, hk with
    | 0, _ => rfl
    | 1, _ => rfl
    | 2, _ => rfl
    | 3, _ => rfl
  · match k, hk with
    | 0, _ => exact g62.wk (by omega)
    | 1, _ => exact g64.wk (by omega)
    | 2, _ => exact g66.wk (by omega)
    | 3, _ => exact g68.wk (by omega)
