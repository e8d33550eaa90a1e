set_option maxRecDepth 100000 in
set_option maxHeartbeats 4000000 in
theorem c_X6_init {E : ev_E} {w : ev_W} (h0 : w 0 = oO 6 [.null, .null, .null, .int 0, .null, .null, .int 0, .null, .null, .null, .int 0]) : Ct E mX6_init [.ref 0] 1 w (fun a m u => a = none ∧ m = 60 ∧ XI z0T t5T (fun _ => t5T) z0T z0T (fun _ => z0T) 60 u) := by
  refine Ct.of 1 (by decide) (Nat.le_of_ble_eq_true rfl) rfl ?_
  refine st_aload_n (q := 1) dX6_init_0 rfl rfl rfl ?_
  refine st_objInit (q := 4) dX6_init_1 rfl ml_X6_1 jo_i jo_c (Nat.le_of_ble_eq_true rfl) (Nat.le_of_ble_eq_true rfl) (Nat.le_of_ble_eq_true rfl) ?_
  refine st_aload_n (q := 5) dX6_init_4 rfl rfl rfl ?_
  refine k_new (q := 8) (fs := [.int 0, .null, .null, .null, .null, .int 0, .int 0, .null, .null, .null, .null, .int 0, .int 0, .null, .int 0, .int 0, .int 0, .int 0]) (cs' := (1, 18)) dX6_init_5 rfl ci_X5 cl_X6_7 is_X5 iz_X5 (by decide) (by simp [ev_ext, ev_cv]) (by omega) rfl (Nat.le_of_ble_eq_true rfl) (Nat.le_of_ble_eq_true rfl) (fun w h9 r9 => ?_)
  replace h0 := (r9 _ (by omega)).trans h0
  have ob1 := h9
  refine st_dup (q := 9) dX6_init_8 rfl rfl ?_
  refine st_I0 (q := 12) (cs' := (10, 73)) (M' := mX5_init) dX6_init_9 rfl ok_X5_init mk_X5_init ml_X6_9 ⟨(Nat.le_of_ble_eq_true rfl), (Nat.le_of_ble_eq_true rfl)⟩ rfl (Nat.le_of_ble_eq_true rfl) rfl (Nat.le_of_ble_eq_true rfl) (Nat.le_of_ble_eq_true rfl) (c_X5_init (b := 1) ob1 (by decide)) ?_
  intro _ n9 w h9 _
  obtain ⟨rfl, rfl, hZ, r9⟩ := h9
  clear ob1
  replace h0 := (r9 _ (by omega)).trans h0
  have g1 := hZ
  refine k_putF (q := 15) dX6_init_12 rfl fl_X6_10 rfl (by omega) h0 rfl (fun _ => rfl) (fun _ => rfl) rfl (fun w h9 r9 => ?_)
  replace g1 := GR.fr gkX5 g1 (fun k h1 h2 => r9 k (by omega))
  replace h0 : w 0 = oO 6 [.ref 1, .null, .null, .int 0, .null, .null, .int 0, .null, .null, .null, .int 0] := h9
  refine st_aload_n (q := 16) dX6_init_15 rfl rfl rfl ?_
  refine k_new (q := 19) (fs := [.int 0, .null, .null, .null, .null, .int 0, .int 0, .null, .null, .null, .null, .int 0, .int 0, .null, .int 0, .int 0, .int 0, .int 0]) (cs' := (11, 91)) dX6_init_16 rfl ci_X5 cl_X6_7 is_X5 iz_X5 (by decide) (by simp [ev_ext, ev_cv]) (by omega) rfl (Nat.le_of_ble_eq_true rfl) (Nat.le_of_ble_eq_true rfl) (fun w h9 r9 => ?_)
  replace h0 := (r9 _ (by omega)).trans h0
  replace g1 := GR.fr gkX5 g1 (fun k h1 h2 => r9 k (by omega))
  have ob2 := h9
  refine st_dup (q := 20) dX6_init_19 rfl rfl ?_
  refine st_I0 (q := 23) (cs' := (20, 146)) (M' := mX5_init) dX6_init_20 rfl ok_X5_init mk_X5_init ml_X6_9 ⟨(Nat.le_of_ble_eq_true rfl), (Nat.le_of_ble_eq_true rfl)⟩ rfl (Nat.le_of_ble_eq_true rfl) rfl (Nat.le_of_ble_eq_true rfl) (Nat.le_of_ble_eq_true rfl) (c_X5_init (b := 11) ob2 (by decide)) ?_
  intro _ n9 w h9 _
  obtain ⟨rfl, rfl, hZ, r9⟩ := h9
  clear ob2
  replace h0 := (r9 _ (by omega)).trans h0
  replace g1 := GR.fr gkX5 g1 (fun k h1 h2 => r9 k (by omega))
  have g11 := hZ
  refine k_putF (q := 26) dX6_init_23 rfl fl_X6_16 rfl (by omega) h0 rfl (fun _ => rfl) (fun _ => rfl) rfl (fun w h9 r9 => ?_)
  replace g1 := GR.fr gkX5 g1 (fun k h1 h2 => r9 k (by omega))
  replace g11 := GR.fr gkX5 g11 (fun k h1 h2 => r9 k (by omega))
  replace h0 : w 0 = oO 6 [.ref 1, .ref 11, .null, .int 0, .null, .null, .int 0, .null, .null, .null, .int 0] := h9
  refine st_aload_n (q := 27) dX6_init_26 rfl rfl rfl ?_
  refine st_iconst (q := 28) dX6_init_27 rfl ic_2 ?_
  refine k_newQ (q := 31) (N := 2) (t := 3) (cs' := (21, 148)) dX6_init_28 rfl cl_X6_7 (Or.inl rfl) rfl (by decide) (by decide) (by decide) (by omega) rfl (Nat.le_of_ble_eq_true rfl) (Nat.le_of_ble_eq_true rfl) (fun w h9 r9 => ?_)
  replace h0 := (r9 _ (by omega)).trans h0
  replace g1 := GR.fr gkX5 g1 (fun k h1 h2 => r9 k (by omega))
  replace g11 := GR.fr gkX5 g11 (fun k h1 h2 => r9 k (by omega))
  have q21 := h9
  refine k_putF (q := 34) dX6_init_31 rfl fl_X6_19 rfl (by omega) h0 rfl (fun _ => rfl) (fun _ => rfl) rfl (fun w h9 r9 => ?_)
  replace g1 := GR.fr gkX5 g1 (fun k h1 h2 => r9 k (by omega))
  replace g11 := GR.fr gkX5 g11 (fun k h1 h2 => r9 k (by omega))
  replace q21 := (r9 _ (by omega)).trans q21
  replace h0 : w 0 = oO 6 [.ref 1, .ref 11, .ref 21, .int 0, .null, .null, .int 0, .null, .null, .null, .int 0] := h9
  refine st_iconst (q := 35) dX6_init_34 rfl ic_0 ?_
  refine st_istore_n (q := 36) (L' := [_, _]) dX6_init_35 rfl rfl (Nat.le_of_ble_eq_true rfl) rfl ?_
  refine st_iload_n (q := 37) dX6_init_36 rfl rfl rfl ?_
  refine st_iconst (q := 38) dX6_init_37 rfl ic_2 ?_
  refine st_icmp_ge (q := 41) (tgt := 60) dX6_init_38 rfl rfl (fun c_38 => False.elim (absurd c_38 (by decide))) (fun c_38 => ?_)
  refine st_aload_n (q := 42) dX6_init_41 rfl rfl rfl ?_
  refine st_getfield (q := 45) dX6_init_42 rfl fl_X6_19.g (by omega) h0 rfl ?_
  refine st_iload_n (q := 46) dX6_init_45 rfl rfl rfl ?_
  refine k_new (q := 49) (fs := [.int 0, .null, .null, .null, .null, .int 0, .int 0, .null, .null, .null, .null, .int 0, .int 0, .null, .int 0, .int 0, .int 0, .int 0]) (cs' := (22, 166)) dX6_init_46 rfl ci_X5 cl_X6_7 is_X5 iz_X5 (by decide) (by simp [ev_ext, ev_cv]) (by omega) rfl (Nat.le_of_ble_eq_true rfl) (Nat.le_of_ble_eq_true rfl) (fun w h9 r9 => ?_)
  replace h0 := (r9 _ (by omega)).trans h0
  replace g1 := GR.fr gkX5 g1 (fun k h1 h2 => r9 k (by omega))
  replace g11 := GR.fr gkX5 g11 (fun k h1 h2 => r9 k (by omega))
  replace q21 := (r9 _ (by omega)).trans q21
  have ob3 := h9
  refine st_dup (q := 50) dX6_init_49 rfl rfl ?_
  refine st_I0 (q := 53) (cs' := (31, 221)) (M' := mX5_init) dX6_init_50 rfl ok_X5_init mk_X5_init ml_X6_9 ⟨(Nat.le_of_ble_eq_true rfl), (Nat.le_of_ble_eq_true rfl)⟩ rfl (Nat.le_of_ble_eq_true rfl) rfl (Nat.le_of_ble_eq_true rfl) (Nat.le_of_ble_eq_true rfl) (c_X5_init (b := 22) ob3 (by decide)) ?_
  intro _ n9 w h9 _
  obtain ⟨rfl, rfl, hZ, r9⟩ := h9
  clear ob3
  replace h0 := (r9 _ (by omega)).trans h0
  replace g1 := GR.fr gkX5 g1 (fun k h1 h2 => r9 k (by omega))
  replace g11 := GR.fr gkX5 g11 (fun k h1 h2 => r9 k (by omega))
  replace q21 := (r9 _ (by omega)).trans q21
  have g22 := hZ
  refine k_aast (q := 54) (j := 0) (r := 22) dX6_init_53 rfl (by omega) q21 rfl (by omega) g22.2.1 rfl (ev_ix_nI (j := 0) (by decide) (by decide)) (fun w h9 r9 => ?_)
  replace h0 := (r9 _ (by omega)).trans h0
  replace g1 := GR.fr gkX5 g1 (fun k h1 h2 => r9 k (by omega))
  replace g11 := GR.fr gkX5 g11 (fun k h1 h2 => r9 k (by omega))
  replace g22 := GR.fr gkX5 g22 (fun k h1 h2 => r9 k (by omega))
  replace q21 := h9
  refine st_iinc (q := 57) (L' := [_, _]) dX6_init_54 rfl rfl (nI_succ 0).symm (Nat.le_of_ble_eq_true rfl) rfl ?_
  refine st_goto (q := 36) dX6_init_57 rfl ?_
  refine st_iload_n (q := 37) dX6_init_36 rfl rfl rfl ?_
  refine st_iconst (q := 38) dX6_init_37 rfl ic_2 ?_
  refine st_icmp_ge (q := 41) (tgt := 60) dX6_init_38 rfl rfl (fun c_38 => False.elim (absurd c_38 (by decide))) (fun c_38 => ?_)
  refine st_aload_n (q := 42) dX6_init_41 rfl rfl rfl ?_
  refine st_getfield (q := 45) dX6_init_42 rfl fl_X6_19.g (by omega) h0 rfl ?_
  refine st_iload_n (q := 46) dX6_init_45 rfl rfl rfl ?_
  refine k_new (q := 49) (fs := [.int 0, .null, .null, .null, .null, .int 0, .int 0, .null, .null, .null, .null, .int 0, .int 0, .null, .int 0, .int 0, .int 0, .int 0]) (cs' := (32, 239)) dX6_init_46 rfl ci_X5 cl_X6_7 is_X5 iz_X5 (by decide) (by simp [ev_ext, ev_cv]) (by omega) rfl (Nat.le_of_ble_eq_true rfl) (Nat.le_of_ble_eq_true rfl) (fun w h9 r9 => ?_)
  replace h0 := (r9 _ (by omega)).trans h0
  replace g1 := GR.fr gkX5 g1 (fun k h1 h2 => r9 k (by omega))
  replace g11 := GR.fr gkX5 g11 (fun k h1 h2 => r9 k (by omega))
  replace q21 := (r9 _ (by omega)).trans q21
  replace g22 := GR.fr gkX5 g22 (fun k h1 h2 => r9 k (by omega))
  have ob4 := h9
  refine st_dup (q := 50) dX6_init_49 rfl rfl ?_
  refine st_I0 (q := 53) (cs' := (41, 294)) (M' := mX5_init) dX6_init_50 rfl ok_X5_init mk_X5_init ml_X6_9 ⟨(Nat.le_of_ble_eq_true rfl), (Nat.le_of_ble_eq_true rfl)⟩ rfl (Nat.le_of_ble_eq_true rfl) rfl (Nat.le_of_ble_eq_true rfl) (Nat.le_of_ble_eq_true rfl) (c_X5_init (b := 32) ob4 (by decide)) ?_
  intro _ n9 w h9 _
  obtain ⟨rfl, rfl, hZ, r9⟩ := h9
  clear ob4
  replace h0 := (r9 _ (by omega)).trans h0
  replace g1 := GR.fr gkX5 g1 (fun k h1 h2 => r9 k (by omega))
  replace g11 := GR.fr gkX5 g11 (fun k h1 h2 => r9 k (by omega))
  replace q21 := (r9 _ (by omega)).trans q21
  replace g22 := GR.fr gkX5 g22 (fun k h1 h2 => r9 k (by omega))
  have g32 := hZ
  refine k_aast (q := 54) (j := 1) (r := 32) dX6_init_53 rfl (by omega) q21 rfl (by omega) g32.2.1 rfl (ev_ix_nI (j := 1) (by decide) (by decide)) (fun w h9 r9 => ?_)
  replace h0 := (r9 _ (by omega)).trans h0
  replace g1 := GR.fr gkX5 g1 (fun k h1 h2 => r9 k (by omega))
  replace g11 := GR.fr gkX5 g11 (fun k h1 h2 => r9 k (by omega))
  replace g22 := GR.fr gkX5 g22 (fun k h1 h2 => r9 k (by omega))
  replace g32 := GR.fr gkX5 g32 (fun k h1 h2 => r9 k (by omega))
  replace q21 := h9
  refine st_iinc (q := 57) (L' := [_, _]) dX6_init_54 rfl rfl (nI_succ 1).symm (Nat.le_of_ble_eq_true rfl) rfl ?_
  refine st_goto (q := 36) dX6_init_57 rfl ?_
  refine st_iload_n (q := 37) dX6_init_36 rfl rfl rfl ?_
  refine st_iconst (q := 38) dX6_init_37 rfl ic_2 ?_
  refine st_icmp_ge (q := 41) (tgt := 60) dX6_init_38 rfl rfl (fun c_38 => ?_) (fun c_38 => False.elim (c_38 (by decide)))
  refine st_aload_n (q := 61) dX6_init_60 rfl rfl rfl ?_
  refine k_new (q := 64) (fs := [.null, .int 0]) (cs' := (42, 296)) dX6_init_61 rfl ci_X4 cl_X6_23 is_X4 iz_X4 (by decide) (by simp [ev_ext, ev_cv]) (by omega) rfl (Nat.le_of_ble_eq_true rfl) (Nat.le_of_ble_eq_true rfl) (fun w h9 r9 => ?_)
  replace h0 := (r9 _ (by omega)).trans h0
  replace g1 := GR.fr gkX5 g1 (fun k h1 h2 => r9 k (by omega))
  replace g11 := GR.fr gkX5 g11 (fun k h1 h2 => r9 k (by omega))
  replace q21 := (r9 _ (by omega)).trans q21
  replace g22 := GR.fr gkX5 g22 (fun k h1 h2 => r9 k (by omega))
  replace g32 := GR.fr gkX5 g32 (fun k h1 h2 => r9 k (by omega))
  have ob5 := h9
  refine st_dup (q := 65) dX6_init_64 rfl rfl ?_
  refine st_IN0 (q := 68) (cs' := (43, 456)) (M' := mX4_init) dX6_init_65 rfl ok_X4_init mk_X4_init ml_X6_25 ⟨(Nat.le_of_ble_eq_true rfl), (Nat.le_of_ble_eq_true rfl)⟩ rfl (Nat.le_of_ble_eq_true rfl) rfl (Nat.le_of_ble_eq_true rfl) (Nat.le_of_ble_eq_true rfl) (c_X4_init (b := 42) ob5 (by decide)) ?_
  intro _ n9 w h9 _
  obtain ⟨rfl, rfl, hZ, r9⟩ := h9
  clear ob5
  replace h0 := (r9 _ (by omega)).trans h0
  replace g1 := GR.fr gkX5 g1 (fun k h1 h2 => r9 k (by omega))
  replace g11 := GR.fr gkX5 g11 (fun k h1 h2 => r9 k (by omega))
  replace q21 := (r9 _ (by omega)).trans q21
  replace g22 := GR.fr gkX5 g22 (fun k h1 h2 => r9 k (by omega))
  replace g32 := GR.fr gkX5 g32 (fun k h1 h2 => r9 k (by omega))
  have g42 := hZ
  refine k_putF (q := 71) dX6_init_68 rfl fl_X6_26 rfl (by omega) h0 rfl (fun _ => rfl) (fun _ => rfl) rfl (fun w h9 r9 => ?_)
  replace g1 := GR.fr gkX5 g1 (fun k h1 h2 => r9 k (by omega))
  replace g11 := GR.fr gkX5 g11 (fun k h1 h2 => r9 k (by omega))
  replace q21 := (r9 _ (by omega)).trans q21
  replace g22 := GR.fr gkX5 g22 (fun k h1 h2 => r9 k (by omega))
  replace g32 := GR.fr gkX5 g32 (fun k h1 h2 => r9 k (by omega))
  replace g42 := GR.fr gkX4 g42 (fun k h1 h2 => r9 k (by omega))
  replace h0 : w 0 = oO 6 [.ref 1, .ref 11, .ref 21, .int 0, .ref 42, .null, .int 0, .null, .null, .null, .int 0] := h9
  refine st_aload_n (q := 72) dX6_init_71 rfl rfl rfl ?_
  refine k_new (q := 75) (fs := [.null, .null, .null, .int 0, .int 0, .int 0, .int 0, .int 0, .int 0, .int 0, .int 0, .int 0]) (cs' := (44, 468)) dX6_init_72 rfl ci_X1 cl_X6_30 is_X1 iz_X1 (by decide) (by simp [ev_ext, ev_cv]) (by omega) rfl (Nat.le_of_ble_eq_true rfl) (Nat.le_of_ble_eq_true rfl) (fun w h9 r9 => ?_)
  replace h0 := (r9 _ (by omega)).trans h0
  replace g1 := GR.fr gkX5 g1 (fun k h1 h2 => r9 k (by omega))
  replace g11 := GR.fr gkX5 g11 (fun k h1 h2 => r9 k (by omega))
  replace q21 := (r9 _ (by omega)).trans q21
  replace g22 := GR.fr gkX5 g22 (fun k h1 h2 => r9 k (by omega))
  replace g32 := GR.fr gkX5 g32 (fun k h1 h2 => r9 k (by omega))
  replace g42 := GR.fr gkX4 g42 (fun k h1 h2 => r9 k (by omega))
  have ob6 := h9
  refine st_dup (q := 76) dX6_init_75 rfl rfl ?_
  refine st_aload_n (q := 77) dX6_init_76 rfl rfl rfl ?_
  refine st_getfield (q := 80) dX6_init_77 rfl fl_X6_26.g (by omega) h0 rfl ?_
  refine st_aload_n (q := 81) dX6_init_80 rfl rfl rfl ?_
  refine st_getfield (q := 84) dX6_init_81 rfl fl_X6_16.g (by omega) h0 rfl ?_
  refine st_I2 (q := 87) (cs' := (45, 471)) (M' := mX1_init) dX6_init_84 rfl ok_X1_init mk_X1_init ml_X6_32 ⟨(Nat.le_of_ble_eq_true rfl), (Nat.le_of_ble_eq_true rfl)⟩ rfl (Nat.le_of_ble_eq_true rfl) rfl (Nat.le_of_ble_eq_true rfl) (Nat.le_of_ble_eq_true rfl) (c_X1_init (b := 44) ob6 (by decide)) ?_
  intro _ n9 w h9 _
  obtain ⟨rfl, rfl, hZ, r9⟩ := h9
  clear ob6
  replace h0 := (r9 _ (by omega)).trans h0
  replace g1 := GR.fr gkX5 g1 (fun k h1 h2 => r9 k (by omega))
  replace g11 := GR.fr gkX5 g11 (fun k h1 h2 => r9 k (by omega))
  replace q21 := (r9 _ (by omega)).trans q21
  replace g22 := GR.fr gkX5 g22 (fun k h1 h2 => r9 k (by omega))
  replace g32 := GR.fr gkX5 g32 (fun k h1 h2 => r9 k (by omega))
  replace g42 := GR.fr gkX4 g42 (fun k h1 h2 => r9 k (by omega))
  have g44 := hZ
  refine k_putF (q := 90) dX6_init_87 rfl fl_X6_35 rfl (by omega) h0 rfl (fun _ => rfl) (fun _ => rfl) rfl (fun w h9 r9 => ?_)
  replace g1 := GR.fr gkX5 g1 (fun k h1 h2 => r9 k (by omega))
  replace g11 := GR.fr gkX5 g11 (fun k h1 h2 => r9 k (by omega))
  replace q21 := (r9 _ (by omega)).trans q21
  replace g22 := GR.fr gkX5 g22 (fun k h1 h2 => r9 k (by omega))
  replace g32 := GR.fr gkX5 g32 (fun k h1 h2 => r9 k (by omega))
  replace g42 := GR.fr gkX4 g42 (fun k h1 h2 => r9 k (by omega))
  replace g44 := GR.fr gkX1 g44 (fun k h1 h2 => r9 k (by omega))
  replace h0 : w 0 = oO 6 [.ref 1, .ref 11, .ref 21, .int 0, .ref 42, .ref 44, .int 0, .null, .null, .null, .int 0] := h9
  refine st_aload_n (q := 91) dX6_init_90 rfl rfl rfl ?_
  refine k_new (q := 94) (fs := [.null, .null, .int 0]) (cs' := (46, 474)) dX6_init_91 rfl ci_X3 cl_X6_39 is_X3 iz_X3 (by decide) (by simp [ev_ext, ev_cv]) (by omega) rfl (Nat.le_of_ble_eq_true rfl) (Nat.le_of_ble_eq_true rfl) (fun w h9 r9 => ?_)
  replace h0 := (r9 _ (by omega)).trans h0
  replace g1 := GR.fr gkX5 g1 (fun k h1 h2 => r9 k (by omega))
  replace g11 := GR.fr gkX5 g11 (fun k h1 h2 => r9 k (by omega))
  replace q21 := (r9 _ (by omega)).trans q21
  replace g22 := GR.fr gkX5 g22 (fun k h1 h2 => r9 k (by omega))
  replace g32 := GR.fr gkX5 g32 (fun k h1 h2 => r9 k (by omega))
  replace g42 := GR.fr gkX4 g42 (fun k h1 h2 => r9 k (by omega))
  replace g44 := GR.fr gkX1 g44 (fun k h1 h2 => r9 k (by omega))
  have ob7 := h9
  refine st_dup (q := 95) dX6_init_94 rfl rfl ?_
  refine st_IN0 (q := 98) (cs' := (48, 486)) (M' := mX3_init) dX6_init_95 rfl ok_X3_init mk_X3_init ml_X6_41 ⟨(Nat.le_of_ble_eq_true rfl), (Nat.le_of_ble_eq_true rfl)⟩ rfl (Nat.le_of_ble_eq_true rfl) rfl (Nat.le_of_ble_eq_true rfl) (Nat.le_of_ble_eq_true rfl) (c_X3_init (b := 46) ob7 (by decide)) ?_
  intro _ n9 w h9 _
  obtain ⟨rfl, rfl, hZ, r9⟩ := h9
  clear ob7
  replace h0 := (r9 _ (by omega)).trans h0
  replace g1 := GR.fr gkX5 g1 (fun k h1 h2 => r9 k (by omega))
  replace g11 := GR.fr gkX5 g11 (fun k h1 h2 => r9 k (by omega))
  replace q21 := (r9 _ (by omega)).trans q21
  replace g22 := GR.fr gkX5 g22 (fun k h1 h2 => r9 k (by omega))
  replace g32 := GR.fr gkX5 g32 (fun k h1 h2 => r9 k (by omega))
  replace g42 := GR.fr gkX4 g42 (fun k h1 h2 => r9 k (by omega))
  replace g44 := GR.fr gkX1 g44 (fun k h1 h2 => r9 k (by omega))
  have g46 := hZ
  refine k_putF (q := 101) dX6_init_98 rfl fl_X6_42 rfl (by omega) h0 rfl (fun _ => rfl) (fun _ => rfl) rfl (fun w h9 r9 => ?_)
  replace g1 := GR.fr gkX5 g1 (fun k h1 h2 => r9 k (by omega))
  replace g11 := GR.fr gkX5 g11 (fun k h1 h2 => r9 k (by omega))
  replace q21 := (r9 _ (by omega)).trans q21
  replace g22 := GR.fr gkX5 g22 (fun k h1 h2 => r9 k (by omega))
  replace g32 := GR.fr gkX5 g32 (fun k h1 h2 => r9 k (by omega))
  replace g42 := GR.fr gkX4 g42 (fun k h1 h2 => r9 k (by omega))
  replace g44 := GR.fr gkX1 g44 (fun k h1 h2 => r9 k (by omega))
  replace g46 := GR.fr gkX3 g46 (fun k h1 h2 => r9 k (by omega))
  replace h0 : w 0 = oO 6 [.ref 1, .ref 11, .ref 21, .int 0, .ref 42, .ref 44, .int 0, .ref 46, .null, .null, .int 0] := h9
  refine st_aload_n (q := 102) dX6_init_101 rfl rfl rfl ?_
  refine k_new (q := 105) (fs := [.null, .int 0]) (cs' := (49, 488)) dX6_init_102 rfl ci_X0 cl_X6_46 is_X0 iz_X0 (by decide) (by simp [ev_ext, ev_cv]) (by omega) rfl (Nat.le_of_ble_eq_true rfl) (Nat.le_of_ble_eq_true rfl) (fun w h9 r9 => ?_)
  replace h0 := (r9 _ (by omega)).trans h0
  replace g1 := GR.fr gkX5 g1 (fun k h1 h2 => r9 k (by omega))
  replace g11 := GR.fr gkX5 g11 (fun k h1 h2 => r9 k (by omega))
  replace q21 := (r9 _ (by omega)).trans q21
  replace g22 := GR.fr gkX5 g22 (fun k h1 h2 => r9 k (by omega))
  replace g32 := GR.fr gkX5 g32 (fun k h1 h2 => r9 k (by omega))
  replace g42 := GR.fr gkX4 g42 (fun k h1 h2 => r9 k (by omega))
  replace g44 := GR.fr gkX1 g44 (fun k h1 h2 => r9 k (by omega))
  replace g46 := GR.fr gkX3 g46 (fun k h1 h2 => r9 k (by omega))
  have ob8 := h9
  refine st_dup (q := 106) dX6_init_105 rfl rfl ?_
  refine st_IN0 (q := 109) (cs' := (50, 1139)) (M' := mX0_init) dX6_init_106 rfl ok_X0_init mk_X0_init ml_X6_48 ⟨(Nat.le_of_ble_eq_true rfl), (Nat.le_of_ble_eq_true rfl)⟩ rfl (Nat.le_of_ble_eq_true rfl) rfl (Nat.le_of_ble_eq_true rfl) (Nat.le_of_ble_eq_true rfl) (c_X0_init (b := 49) ob8 (by decide)) ?_
  intro _ n9 w h9 _
  obtain ⟨rfl, rfl, hZ, r9⟩ := h9
  clear ob8
  replace h0 := (r9 _ (by omega)).trans h0
  replace g1 := GR.fr gkX5 g1 (fun k h1 h2 => r9 k (by omega))
  replace g11 := GR.fr gkX5 g11 (fun k h1 h2 => r9 k (by omega))
  replace q21 := (r9 _ (by omega)).trans q21
  replace g22 := GR.fr gkX5 g22 (fun k h1 h2 => r9 k (by omega))
  replace g32 := GR.fr gkX5 g32 (fun k h1 h2 => r9 k (by omega))
  replace g42 := GR.fr gkX4 g42 (fun k h1 h2 => r9 k (by omega))
  replace g44 := GR.fr gkX1 g44 (fun k h1 h2 => r9 k (by omega))
  replace g46 := GR.fr gkX3 g46 (fun k h1 h2 => r9 k (by omega))
  have g49 := hZ
  refine k_putF (q := 112) dX6_init_109 rfl fl_X6_49 rfl (by omega) h0 rfl (fun _ => rfl) (fun _ => rfl) rfl (fun w h9 r9 => ?_)
  replace g1 := GR.fr gkX5 g1 (fun k h1 h2 => r9 k (by omega))
  replace g11 := GR.fr gkX5 g11 (fun k h1 h2 => r9 k (by omega))
  replace q21 := (r9 _ (by omega)).trans q21
  replace g22 := GR.fr gkX5 g22 (fun k h1 h2 => r9 k (by omega))
  replace g32 := GR.fr gkX5 g32 (fun k h1 h2 => r9 k (by omega))
  replace g42 := GR.fr gkX4 g42 (fun k h1 h2 => r9 k (by omega))
  replace g44 := GR.fr gkX1 g44 (fun k h1 h2 => r9 k (by omega))
  replace g46 := GR.fr gkX3 g46 (fun k h1 h2 => r9 k (by omega))
  replace g49 := GR.fr gkX0 g49 (fun k h1 h2 => r9 k (by omega))
  replace h0 : w 0 = oO 6 [.ref 1, .ref 11, .ref 21, .int 0, .ref 42, .ref 44, .int 0, .ref 46, .ref 49, .null, .int 0] := h9
  refine st_aload_n (q := 113) dX6_init_112 rfl rfl rfl ?_
  refine st_iconst (q := 114) dX6_init_113 rfl ic_4 ?_
  refine k_newQ (q := 117) (N := 4) (t := 4) (cs' := (51, 1143)) dX6_init_114 rfl cl_X6_53 (Or.inr rfl) rfl (by decide) (by decide) (by decide) (by omega) rfl (Nat.le_of_ble_eq_true rfl) (Nat.le_of_ble_eq_true rfl) (fun w h9 r9 => ?_)
  replace h0 := (r9 _ (by omega)).trans h0
  replace g1 := GR.fr gkX5 g1 (fun k h1 h2 => r9 k (by omega))
  replace g11 := GR.fr gkX5 g11 (fun k h1 h2 => r9 k (by omega))
  replace q21 := (r9 _ (by omega)).trans q21
  replace g22 := GR.fr gkX5 g22 (fun k h1 h2 => r9 k (by omega))
  replace g32 := GR.fr gkX5 g32 (fun k h1 h2 => r9 k (by omega))
  replace g42 := GR.fr gkX4 g42 (fun k h1 h2 => r9 k (by omega))
  replace g44 := GR.fr gkX1 g44 (fun k h1 h2 => r9 k (by omega))
  replace g46 := GR.fr gkX3 g46 (fun k h1 h2 => r9 k (by omega))
  replace g49 := GR.fr gkX0 g49 (fun k h1 h2 => r9 k (by omega))
  have q51 := h9
  refine k_putF (q := 120) dX6_init_117 rfl fl_X6_55 rfl (by omega) h0 rfl (fun _ => rfl) (fun _ => rfl) rfl (fun w h9 r9 => ?_)
  replace g1 := GR.fr gkX5 g1 (fun k h1 h2 => r9 k (by omega))
  replace g11 := GR.fr gkX5 g11 (fun k h1 h2 => r9 k (by omega))
  replace q21 := (r9 _ (by omega)).trans q21
  replace g22 := GR.fr gkX5 g22 (fun k h1 h2 => r9 k (by omega))
  replace g32 := GR.fr gkX5 g32 (fun k h1 h2 => r9 k (by omega))
  replace g42 := GR.fr gkX4 g42 (fun k h1 h2 => r9 k (by omega))
  replace g44 := GR.fr gkX1 g44 (fun k h1 h2 => r9 k (by omega))
  replace g46 := GR.fr gkX3 g46 (fun k h1 h2 => r9 k (by omega))
  replace g49 := GR.fr gkX0 g49 (fun k h1 h2 => r9 k (by omega))
  replace q51 := (r9 _ (by omega)).trans q51
  replace h0 : w 0 = oO 6 [.ref 1, .ref 11, .ref 21, .int 0, .ref 42, .ref 44, .int 0, .ref 46, .ref 49, .ref 51, .int 0] := h9
  refine st_iconst (q := 121) dX6_init_120 rfl ic_0 ?_
  refine st_istore_n (q := 122) (L' := [_, _]) dX6_init_121 rfl rfl (Nat.le_of_ble_eq_true rfl) rfl ?_
  refine st_iload_n (q := 123) dX6_init_122 rfl rfl rfl ?_
  refine st_iconst (q := 124) dX6_init_123 rfl ic_4 ?_
  refine st_icmp_ge (q := 127) (tgt := 146) dX6_init_124 rfl rfl (fun c_124 => False.elim (absurd c_124 (by decide))) (fun c_124 => ?_)
  refine st_aload_n (q := 128) dX6_init_127 rfl rfl rfl ?_
  refine st_getfield (q := 131) dX6_init_128 rfl fl_X6_55.g (by omega) h0 rfl ?_
  refine st_iload_n (q := 132) dX6_init_131 rfl rfl rfl ?_
  refine k_new (q := 135) (fs := [.null, .int 0, .int 0, .int 0]) (cs' := (52, 1147)) dX6_init_132 rfl ci_X2 cl_X6_53 is_X2 iz_X2 (by decide) (by simp [ev_ext, ev_cv]) (by omega) rfl (Nat.le_of_ble_eq_true rfl) (Nat.le_of_ble_eq_true rfl) (fun w h9 r9 => ?_)
  replace h0 := (r9 _ (by omega)).trans h0
  replace g1 := GR.fr gkX5 g1 (fun k h1 h2 => r9 k (by omega))
  replace g11 := GR.fr gkX5 g11 (fun k h1 h2 => r9 k (by omega))
  replace q21 := (r9 _ (by omega)).trans q21
  replace g22 := GR.fr gkX5 g22 (fun k h1 h2 => r9 k (by omega))
  replace g32 := GR.fr gkX5 g32 (fun k h1 h2 => r9 k (by omega))
  replace g42 := GR.fr gkX4 g42 (fun k h1 h2 => r9 k (by omega))
  replace g44 := GR.fr gkX1 g44 (fun k h1 h2 => r9 k (by omega))
  replace g46 := GR.fr gkX3 g46 (fun k h1 h2 => r9 k (by omega))
  replace g49 := GR.fr gkX0 g49 (fun k h1 h2 => r9 k (by omega))
  replace q51 := (r9 _ (by omega)).trans q51
  have ob9 := h9
  refine st_dup (q := 136) dX6_init_135 rfl rfl ?_
  refine st_IN0 (q := 139) (cs' := (53, 1187)) (M' := mX2_init) dX6_init_136 rfl ok_X2_init mk_X2_init ml_X6_59 ⟨(Nat.le_of_ble_eq_true rfl), (Nat.le_of_ble_eq_true rfl)⟩ rfl (Nat.le_of_ble_eq_true rfl) rfl (Nat.le_of_ble_eq_true rfl) (Nat.le_of_ble_eq_true rfl) (c_X2_init (b := 52) ob9 (by decide)) ?_
  intro _ n9 w h9 _
  obtain ⟨rfl, rfl, hZ, r9⟩ := h9
  clear ob9
  replace h0 := (r9 _ (by omega)).trans h0
  replace g1 := GR.fr gkX5 g1 (fun k h1 h2 => r9 k (by omega))
  replace g11 := GR.fr gkX5 g11 (fun k h1 h2 => r9 k (by omega))
  replace q21 := (r9 _ (by omega)).trans q21
  replace g22 := GR.fr gkX5 g22 (fun k h1 h2 => r9 k (by omega))
  replace g32 := GR.fr gkX5 g32 (fun k h1 h2 => r9 k (by omega))
  replace g42 := GR.fr gkX4 g42 (fun k h1 h2 => r9 k (by omega))
  replace g44 := GR.fr gkX1 g44 (fun k h1 h2 => r9 k (by omega))
  replace g46 := GR.fr gkX3 g46 (fun k h1 h2 => r9 k (by omega))
  replace g49 := GR.fr gkX0 g49 (fun k h1 h2 => r9 k (by omega))
  replace q51 := (r9 _ (by omega)).trans q51
  have g52 := hZ
  refine k_aast (q := 140) (j := 0) (r := 52) dX6_init_139 rfl (by omega) q51 rfl (by omega) g52.2.1 rfl (ev_ix_nI (j := 0) (by decide) (by decide)) (fun w h9 r9 => ?_)
  replace h0 := (r9 _ (by omega)).trans h0
  replace g1 := GR.fr gkX5 g1 (fun k h1 h2 => r9 k (by omega))
  replace g11 := GR.fr gkX5 g11 (fun k h1 h2 => r9 k (by omega))
  replace q21 := (r9 _ (by omega)).trans q21
  replace g22 := GR.fr gkX5 g22 (fun k h1 h2 => r9 k (by omega))
  replace g32 := GR.fr gkX5 g32 (fun k h1 h2 => r9 k (by omega))
  replace g42 := GR.fr gkX4 g42 (fun k h1 h2 => r9 k (by omega))
  replace g44 := GR.fr gkX1 g44 (fun k h1 h2 => r9 k (by omega))
  replace g46 := GR.fr gkX3 g46 (fun k h1 h2 => r9 k (by omega))
  replace g49 := GR.fr gkX0 g49 (fun k h1 h2 => r9 k (by omega))
  replace g52 := GR.fr gkX2 g52 (fun k h1 h2 => r9 k (by omega))
  replace q51 := h9
  refine st_iinc (q := 143) (L' := [_, _]) dX6_init_140 rfl rfl (nI_succ 0).symm (Nat.le_of_ble_eq_true rfl) rfl ?_
  refine st_goto (q := 122) dX6_init_143 rfl ?_
  refine st_iload_n (q := 123) dX6_init_122 rfl rfl rfl ?_
  refine st_iconst (q := 124) dX6_init_123 rfl ic_4 ?_
  refine st_icmp_ge (q := 127) (tgt := 146) dX6_init_124 rfl rfl (fun c_124 => False.elim (absurd c_124 (by decide))) (fun c_124 => ?_)
  refine st_aload_n (q := 128) dX6_init_127 rfl rfl rfl ?_
  refine st_getfield (q := 131) dX6_init_128 rfl fl_X6_55.g (by omega) h0 rfl ?_
  refine st_iload_n (q := 132) dX6_init_131 rfl rfl rfl ?_
  refine k_new (q := 135) (fs := [.null, .int 0, .int 0, .int 0]) (cs' := (54, 1191)) dX6_init_132 rfl ci_X2 cl_X6_53 is_X2 iz_X2 (by decide) (by simp [ev_ext, ev_cv]) (by omega) rfl (Nat.le_of_ble_eq_true rfl) (Nat.le_of_ble_eq_true rfl) (fun w h9 r9 => ?_)
  replace h0 := (r9 _ (by omega)).trans h0
  replace g1 := GR.fr gkX5 g1 (fun k h1 h2 => r9 k (by omega))
  replace g11 := GR.fr gkX5 g11 (fun k h1 h2 => r9 k (by omega))
  replace q21 := (r9 _ (by omega)).trans q21
  replace g22 := GR.fr gkX5 g22 (fun k h1 h2 => r9 k (by omega))
  replace g32 := GR.fr gkX5 g32 (fun k h1 h2 => r9 k (by omega))
  replace g42 := GR.fr gkX4 g42 (fun k h1 h2 => r9 k (by omega))
  replace g44 := GR.fr gkX1 g44 (fun k h1 h2 => r9 k (by omega))
  replace g46 := GR.fr gkX3 g46 (fun k h1 h2 => r9 k (by omega))
  replace g49 := GR.fr gkX0 g49 (fun k h1 h2 => r9 k (by omega))
  replace q51 := (r9 _ (by omega)).trans q51
  replace g52 := GR.fr gkX2 g52 (fun k h1 h2 => r9 k (by omega))
  have ob10 := h9
  refine st_dup (q := 136) dX6_init_135 rfl rfl ?_
  refine st_IN0 (q := 139) (cs' := (55, 1231)) (M' := mX2_init) dX6_init_136 rfl ok_X2_init mk_X2_init ml_X6_59 ⟨(Nat.le_of_ble_eq_true rfl), (Nat.le_of_ble_eq_true rfl)⟩ rfl (Nat.le_of_ble_eq_true rfl) rfl (Nat.le_of_ble_eq_true rfl) (Nat.le_of_ble_eq_true rfl) (c_X2_init (b := 54) ob10 (by decide)) ?_
  intro _ n9 w h9 _
  obtain ⟨rfl, rfl, hZ, r9⟩ := h9
  clear ob10
  replace h0 := (r9 _ (by omega)).trans h0
  replace g1 := GR.fr gkX5 g1 (fun k h1 h2 => r9 k (by omega))
  replace g11 := GR.fr gkX5 g11 (fun k h1 h2 => r9 k (by omega))
  replace q21 := (r9 _ (by omega)).trans q21
  replace g22 := GR.fr gkX5 g22 (fun k h1 h2 => r9 k (by omega))
  replace g32 := GR.fr gkX5 g32 (fun k h1 h2 => r9 k (by omega))
  replace g42 := GR.fr gkX4 g42 (fun k h1 h2 => r9 k (by omega))
  replace g44 := GR.fr gkX1 g44 (fun k h1 h2 => r9 k (by omega))
  replace g46 := GR.fr gkX3 g46 (fun k h1 h2 => r9 k (by omega))
  replace g49 := GR.fr gkX0 g49 (fun k h1 h2 => r9 k (by omega))
  replace q51 := (r9 _ (by omega)).trans q51
  replace g52 := GR.fr gkX2 g52 (fun k h1 h2 => r9 k (by omega))
  have g54 := hZ
  refine k_aast (q := 140) (j := 1) (r := 54) dX6_init_139 rfl (by omega) q51 rfl (by omega) g54.2.1 rfl (ev_ix_nI (j := 1) (by decide) (by decide)) (fun w h9 r9 => ?_)
  replace h0 := (r9 _ (by omega)).trans h0
  replace g1 := GR.fr gkX5 g1 (fun k h1 h2 => r9 k (by omega))
  replace g11 := GR.fr gkX5 g11 (fun k h1 h2 => r9 k (by omega))
  replace q21 := (r9 _ (by omega)).trans q21
  replace g22 := GR.fr gkX5 g22 (fun k h1 h2 => r9 k (by omega))
  replace g32 := GR.fr gkX5 g32 (fun k h1 h2 => r9 k (by omega))
  replace g42 := GR.fr gkX4 g42 (fun k h1 h2 => r9 k (by omega))
  replace g44 := GR.fr gkX1 g44 (fun k h1 h2 => r9 k (by omega))
  replace g46 := GR.fr gkX3 g46 (fun k h1 h2 => r9 k (by omega))
  replace g49 := GR.fr gkX0 g49 (fun k h1 h2 => r9 k (by omega))
  replace g52 := GR.fr gkX2 g52 (fun k h1 h2 => r9 k (by omega))
  replace g54 := GR.fr gkX2 g54 (fun k h1 h2 => r9 k (by omega))
  replace q51 := h9
  refine st_iinc (q := 143) (L' := [_, _]) dX6_init_140 rfl rfl (nI_succ 1).symm (Nat.le_of_ble_eq_true rfl) rfl ?_
  refine st_goto (q := 122) dX6_init_143 rfl ?_
  refine st_iload_n (q := 123) dX6_init_122 rfl rfl rfl ?_
  refine st_iconst (q := 124) dX6_init_123 rfl ic_4 ?_
  refine st_icmp_ge (q := 127) (tgt := 146) dX6_init_124 rfl rfl (fun c_124 => False.elim (absurd c_124 (by decide))) (fun c_124 => ?_)
  refine st_aload_n (q := 128) dX6_init_127 rfl rfl rfl ?_
  refine st_getfield (q := 131) dX6_init_128 rfl fl_X6_55.g (by omega) h0 rfl ?_
  refine st_iload_n (q := 132) dX6_init_131 rfl rfl rfl ?_
  refine k_new (q := 135) (fs := [.null, .int 0, .int 0, .int 0]) (cs' := (56, 1235)) dX6_init_132 rfl ci_X2 cl_X6_53 is_X2 iz_X2 (by decide) (by simp [ev_ext, ev_cv]) (by omega) rfl (Nat.le_of_ble_eq_true rfl) (Nat.le_of_ble_eq_true rfl) (fun w h9 r9 => ?_)
  replace h0 := (r9 _ (by omega)).trans h0
  replace g1 := GR.fr gkX5 g1 (fun k h1 h2 => r9 k (by omega))
  replace g11 := GR.fr gkX5 g11 (fun k h1 h2 => r9 k (by omega))
  replace q21 := (r9 _ (by omega)).trans q21
  replace g22 := GR.fr gkX5 g22 (fun k h1 h2 => r9 k (by omega))
  replace g32 := GR.fr gkX5 g32 (fun k h1 h2 => r9 k (by omega))
  replace g42 := GR.fr gkX4 g42 (fun k h1 h2 => r9 k (by omega))
  replace g44 := GR.fr gkX1 g44 (fun k h1 h2 => r9 k (by omega))
  replace g46 := GR.fr gkX3 g46 (fun k h1 h2 => r9 k (by omega))
  replace g49 := GR.fr gkX0 g49 (fun k h1 h2 => r9 k (by omega))
  replace q51 := (r9 _ (by omega)).trans q51
  replace g52 := GR.fr gkX2 g52 (fun k h1 h2 => r9 k (by omega))
  replace g54 := GR.fr gkX2 g54 (fun k h1 h2 => r9 k (by omega))
  have ob11 := h9
  refine st_dup (q := 136) dX6_init_135 rfl rfl ?_
  refine st_IN0 (q := 139) (cs' := (57, 1275)) (M' := mX2_init) dX6_init_136 rfl ok_X2_init mk_X2_init ml_X6_59 ⟨(Nat.le_of_ble_eq_true rfl), (Nat.le_of_ble_eq_true rfl)⟩ rfl (Nat.le_of_ble_eq_true rfl) rfl (Nat.le_of_ble_eq_true rfl) (Nat.le_of_ble_eq_true rfl) (c_X2_init (b := 56) ob11 (by decide)) ?_
  intro _ n9 w h9 _
  obtain ⟨rfl, rfl, hZ, r9⟩ := h9
  clear ob11
  replace h0 := (r9 _ (by omega)).trans h0
  replace g1 := GR.fr gkX5 g1 (fun k h1 h2 => r9 k (by omega))
  replace g11 := GR.fr gkX5 g11 (fun k h1 h2 => r9 k (by omega))
  replace q21 := (r9 _ (by omega)).trans q21
  replace g22 := GR.fr gkX5 g22 (fun k h1 h2 => r9 k (by omega))
  replace g32 := GR.fr gkX5 g32 (fun k h1 h2 => r9 k (by omega))
  replace g42 := GR.fr gkX4 g42 (fun k h1 h2 => r9 k (by omega))
  replace g44 := GR.fr gkX1 g44 (fun k h1 h2 => r9 k (by omega))
  replace g46 := GR.fr gkX3 g46 (fun k h1 h2 => r9 k (by omega))
  replace g49 := GR.fr gkX0 g49 (fun k h1 h2 => r9 k (by omega))
  replace q51 := (r9 _ (by omega)).trans q51
  replace g52 := GR.fr gkX2 g52 (fun k h1 h2 => r9 k (by omega))
  replace g54 := GR.fr gkX2 g54 (fun k h1 h2 => r9 k (by omega))
  have g56 := hZ
  refine k_aast (q := 140) (j := 2) (r := 56) dX6_init_139 rfl (by omega) q51 rfl (by omega) g56.2.1 rfl (ev_ix_nI (j := 2) (by decide) (by decide)) (fun w h9 r9 => ?_)
  replace h0 := (r9 _ (by omega)).trans h0
  replace g1 := GR.fr gkX5 g1 (fun k h1 h2 => r9 k (by omega))
  replace g11 := GR.fr gkX5 g11 (fun k h1 h2 => r9 k (by omega))
  replace q21 := (r9 _ (by omega)).trans q21
  replace g22 := GR.fr gkX5 g22 (fun k h1 h2 => r9 k (by omega))
  replace g32 := GR.fr gkX5 g32 (fun k h1 h2 => r9 k (by omega))
  replace g42 := GR.fr gkX4 g42 (fun k h1 h2 => r9 k (by omega))
  replace g44 := GR.fr gkX1 g44 (fun k h1 h2 => r9 k (by omega))
  replace g46 := GR.fr gkX3 g46 (fun k h1 h2 => r9 k (by omega))
  replace g49 := GR.fr gkX0 g49 (fun k h1 h2 => r9 k (by omega))
  replace g52 := GR.fr gkX2 g52 (fun k h1 h2 => r9 k (by omega))
  replace g54 := GR.fr gkX2 g54 (fun k h1 h2 => r9 k (by omega))
  replace g56 := GR.fr gkX2 g56 (fun k h1 h2 => r9 k (by omega))
  replace q51 := h9
  refine st_iinc (q := 143) (L' := [_, _]) dX6_init_140 rfl rfl (nI_succ 2).symm (Nat.le_of_ble_eq_true rfl) rfl ?_
  refine st_goto (q := 122) dX6_init_143 rfl ?_
  refine st_iload_n (q := 123) dX6_init_122 rfl rfl rfl ?_
  refine st_iconst (q := 124) dX6_init_123 rfl ic_4 ?_
  refine st_icmp_ge (q := 127) (tgt := 146) dX6_init_124 rfl rfl (fun c_124 => False.elim (absurd c_124 (by decide))) (fun c_124 => ?_)
  refine st_aload_n (q := 128) dX6_init_127 rfl rfl rfl ?_
  refine st_getfield (q := 131) dX6_init_128 rfl fl_X6_55.g (by omega) h0 rfl ?_
  refine st_iload_n (q := 132) dX6_init_131 rfl rfl rfl ?_
  refine k_new (q := 135) (fs := [.null, .int 0, .int 0, .int 0]) (cs' := (58, 1279)) dX6_init_132 rfl ci_X2 cl_X6_53 is_X2 iz_X2 (by decide) (by simp [ev_ext, ev_cv]) (by omega) rfl (Nat.le_of_ble_eq_true rfl) (Nat.le_of_ble_eq_true rfl) (fun w h9 r9 => ?_)
  replace h0 := (r9 _ (by omega)).trans h0
  replace g1 := GR.fr gkX5 g1 (fun k h1 h2 => r9 k (by omega))
  replace g11 := GR.fr gkX5 g11 (fun k h1 h2 => r9 k (by omega))
  replace q21 := (r9 _ (by omega)).trans q21
  replace g22 := GR.fr gkX5 g22 (fun k h1 h2 => r9 k (by omega))
  replace g32 := GR.fr gkX5 g32 (fun k h1 h2 => r9 k (by omega))
  replace g42 := GR.fr gkX4 g42 (fun k h1 h2 => r9 k (by omega))
  replace g44 := GR.fr gkX1 g44 (fun k h1 h2 => r9 k (by omega))
  replace g46 := GR.fr gkX3 g46 (fun k h1 h2 => r9 k (by omega))
  replace g49 := GR.fr gkX0 g49 (fun k h1 h2 => r9 k (by omega))
  replace q51 := (r9 _ (by omega)).trans q51
  replace g52 := GR.fr gkX2 g52 (fun k h1 h2 => r9 k (by omega))
  replace g54 := GR.fr gkX2 g54 (fun k h1 h2 => r9 k (by omega))
  replace g56 := GR.fr gkX2 g56 (fun k h1 h2 => r9 k (by omega))
  have ob12 := h9
  refine st_dup (q := 136) dX6_init_135 rfl rfl ?_
  refine st_IN0 (q := 139) (cs' := (59, 1319)) (M' := mX2_init) dX6_init_136 rfl ok_X2_init mk_X2_init ml_X6_59 ⟨(Nat.le_of_ble_eq_true rfl), (Nat.le_of_ble_eq_true rfl)⟩ rfl (Nat.le_of_ble_eq_true rfl) rfl (Nat.le_of_ble_eq_true rfl) (Nat.le_of_ble_eq_true rfl) (c_X2_init (b := 58) ob12 (by decide)) ?_
  intro _ n9 w h9 _
  obtain ⟨rfl, rfl, hZ, r9⟩ := h9
  clear ob12
  replace h0 := (r9 _ (by omega)).trans h0
  replace g1 := GR.fr gkX5 g1 (fun k h1 h2 => r9 k (by omega))
  replace g11 := GR.fr gkX5 g11 (fun k h1 h2 => r9 k (by omega))
  replace q21 := (r9 _ (by omega)).trans q21
  replace g22 := GR.fr gkX5 g22 (fun k h1 h2 => r9 k (by omega))
  replace g32 := GR.fr gkX5 g32 (fun k h1 h2 => r9 k (by omega))
  replace g42 := GR.fr gkX4 g42 (fun k h1 h2 => r9 k (by omega))
  replace g44 := GR.fr gkX1 g44 (fun k h1 h2 => r9 k (by omega))
  replace g46 := GR.fr gkX3 g46 (fun k h1 h2 => r9 k (by omega))
  replace g49 := GR.fr gkX0 g49 (fun k h1 h2 => r9 k (by omega))
  replace q51 := (r9 _ (by omega)).trans q51
  replace g52 := GR.fr gkX2 g52 (fun k h1 h2 => r9 k (by omega))
  replace g54 := GR.fr gkX2 g54 (fun k h1 h2 => r9 k (by omega))
  replace g56 := GR.fr gkX2 g56 (fun k h1 h2 => r9 k (by omega))
  have g58 := hZ
  refine k_aast (q := 140) (j := 3) (r := 58) dX6_init_139 rfl (by omega) q51 rfl (by omega) g58.2.1 rfl (ev_ix_nI (j := 3) (by decide) (by decide)) (fun w h9 r9 => ?_)
  replace h0 := (r9 _ (by omega)).trans h0
  replace g1 := GR.fr gkX5 g1 (fun k h1 h2 => r9 k (by omega))
  replace g11 := GR.fr gkX5 g11 (fun k h1 h2 => r9 k (by omega))
  replace q21 := (r9 _ (by omega)).trans q21
  replace g22 := GR.fr gkX5 g22 (fun k h1 h2 => r9 k (by omega))
  replace g32 := GR.fr gkX5 g32 (fun k h1 h2 => r9 k (by omega))
  replace g42 := GR.fr gkX4 g42 (fun k h1 h2 => r9 k (by omega))
  replace g44 := GR.fr gkX1 g44 (fun k h1 h2 => r9 k (by omega))
  replace g46 := GR.fr gkX3 g46 (fun k h1 h2 => r9 k (by omega))
  replace g49 := GR.fr gkX0 g49 (fun k h1 h2 => r9 k (by omega))
  replace g52 := GR.fr gkX2 g52 (fun k h1 h2 => r9 k (by omega))
  replace g54 := GR.fr gkX2 g54 (fun k h1 h2 => r9 k (by omega))
  replace g56 := GR.fr gkX2 g56 (fun k h1 h2 => r9 k (by omega))
  replace g58 := GR.fr gkX2 g58 (fun k h1 h2 => r9 k (by omega))
  replace q51 := h9
  refine st_iinc (q := 143) (L' := [_, _]) dX6_init_140 rfl rfl (nI_succ 3).symm (Nat.le_of_ble_eq_true rfl) rfl ?_
  refine st_goto (q := 122) dX6_init_143 rfl ?_
  refine st_iload_n (q := 123) dX6_init_122 rfl rfl rfl ?_
  refine st_iconst (q := 124) dX6_init_123 rfl ic_4 ?_
  refine st_icmp_ge (q := 127) (tgt := 146) dX6_init_124 rfl rfl (fun c_124 => ?_) (fun c_124 => False.elim (c_124 (by decide)))
  refine st_return dX6_init_146 rfl ?_
  refine ⟨rfl, rfl, Nat.le_refl _, ⟨by omega, h0, fun i o ty len hi => ?_⟩, g1.wk (by omega), ⟨_, g11.wk (by omega)⟩, ⟨_, q21, rfl, rfl⟩, fun k hk => ?_, g42.wk (by omega), ⟨_, g44.wk (by omega)⟩, g46.wk (by omega), ⟨_, g49.wk (by omega)⟩, ⟨_, q51, fun k hk => ?_⟩, fun k hk => ?_⟩
  · match i, hi with
    | 0, hi => cases hi
    | 1, hi => cases hi
    | 2, hi => cases hi
    | 3, hi => cases hi
    | 4, hi => cases hi
    | 5, hi => cases hi
    | 6, hi => cases hi
    | 7, hi => cases hi
    | 8, hi => cases hi
    | 9, hi => cases hi
    | 10, hi => cases hi
    | _ + 11, hi => cases hi
  · match k, hk with
    | 0, _ => exact g22.wk (by omega)
    | 1, _ => exact g32.wk (by omega)
  · match k, hk with
    | 0, _ => rfl
    | 1, _ => rfl
    | 2, _ => rfl
    | 3, _ => rfl
  · match k, hk with
    | 0, _ => exact g52.wk (by omega)
    | 1, _ => exact g54.wk (by omega)
    | 2, _ => exact g56.wk (by omega)
    | 3, _ => exact g58.wk (by omega)
