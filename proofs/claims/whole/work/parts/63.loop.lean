theorem lw_out {L i : Nat} (hL : L ≤ 320) (hi : i ≤ 325) (h : ¬ nI L - nI 5 < nI i) : i + 5 ≤ L := by
  have e5 : (nI 5).toInt = 5 := by decide
  have eL : (nI L).toInt = L := nI_toInt (by omega)
  have ei : (nI i).toInt = i := nI_toInt (by omega)
  rw [Int32.lt_iff_toInt_lt, ti_sub (by omega) (by omega)] at h
  omega
set_option maxRecDepth 100000 in
set_option maxHeartbeats 4000000 in
theorem lw_tick {E : ev_E} (hL : E.2.2.2.1 ≤ 320) {i : Nat} (hi : i ≤ 325) {w : ev_W} (h : LW w) (kk : i + 5 ≤ E.2.2.2.1 → ∀ w', LW w' → Ev E mL 18 [some (.ref 1010), some (.ref 0), some (.ref 70), some (.int (nI (i + 5)))] [] 82 w' (82, 2968) qL) : Ev E mL 18 [some (.ref 1010), some (.ref 0), some (.ref 70), some (.int (nI i))] [] 82 w (82, 2968) qL := by
  refine st_iload_n (q := 19) dL_law_18 rfl rfl rfl ?_
  refine st_aload_n (q := 20) dL_law_19 rfl rfl rfl ?_
  refine st_alenX (q := 21) (v := nI E.2.2.2.1) dL_law_20 rfl (List.mem_of_getElem? (i := 10) rfl) (by decide) rfl ?_
  refine st_iconst (q := 22) (v := nI 5) dL_law_21 rfl rfl ?_
  refine st_isub (q := 23) dL_law_22 rfl ?_
  refine st_icmp_gt (q := 26) (tgt := 1510) dL_law_23 rfl rfl (fun c_23 => ?_) (fun c_23 => ?_)
  · refine st_iconst (q := 1511) dL_law_1510 rfl ic_1 ?_
    exact st_nreturn (ty := .boolean) dL_law_1511 rfl rfl rfl
  have h5 := lw_out hL hi c_23
  have kt : ∀ w', LW w' → Ev E mL 1504 [some (.ref 1010), some (.ref 0), some (.ref 70), some (.int (nI i))] [] 82 w' (82, 2968) qL := by
    intro w' h'
    refine st_iinc (q := 1507) (L' := [_, _, _, _]) (v := nI (i + 5)) dL_law_1504 rfl rfl (by rw [show Int32.ofInt 5 = nI 5 from rfl, nI_add]) (Nat.le_of_ble_eq_true rfl) rfl ?_
    exact st_goto (q := 18) dL_law_1507 rfl (kk h5 w' h')
  refine st_aload_n (q := 27) dL_law_26 rfl rfl rfl ?_
  refine st_iload_n (q := 28) dL_law_27 rfl rfl rfl ?_
  refine st_ialoadX (q := 29) dL_law_28 rfl (List.mem_of_getElem? (i := 10) rfl) (by decide) (ev_ix_nI (j := i) (by omega) (by omega)) rfl ?_
  refine st_bipush (q := 31) dL_law_29 rfl bp_63 ?_
  refine st_iand (q := 32) dL_law_31 rfl ?_
  generalize (E.2.2.2.2 i &&& 63) = y
  refine st_tabK 0 (v := 0) (tgt := 216) dL_law_32 rfl rfl (by decide) (by decide) (fun _ => lc_feed h5 hL h kt) (fun _ t0 => ?_)
  refine st_tabK 1 (v := 1) (tgt := 239) dL_law_32 rfl rfl (by decide) (by decide) (fun _ => lc_end h5 hL h kt) (fun _ t1 => ?_)
  refine st_tabK 2 (v := 2) (tgt := 262) dL_law_32 rfl rfl (by decide) (by decide) (fun _ => lc_text h5 hL h kt) (fun _ t2 => ?_)
  refine st_tabK 3 (v := 3) (tgt := 275) dL_law_32 rfl rfl (by decide) (by decide) (fun _ => lc_fault h5 hL h kt) (fun _ t3 => ?_)
  refine st_tabK 4 (v := 4) (tgt := 288) dL_law_32 rfl rfl (by decide) (by decide) (fun _ => lc_rule h5 hL h kt) (fun _ t4 => ?_)
  refine st_tabK 5 (v := 5) (tgt := 311) dL_law_32 rfl rfl (by decide) (by decide) (fun _ => lc_house h5 hL h kt) (fun _ t5 => ?_)
  refine st_tabK 6 (v := 6) (tgt := 344) dL_law_32 rfl rfl (by decide) (by decide) (fun _ => lc_thing h5 hL h kt) (fun _ t6 => ?_)
  refine st_tabK 7 (v := 7) (tgt := 377) dL_law_32 rfl rfl (by decide) (by decide) (fun _ => lc_rise h5 hL h kt) (fun _ t7 => ?_)
  refine st_tabK 8 (v := 8) (tgt := 400) dL_law_32 rfl rfl (by decide) (by decide) (fun _ => lc_build h5 hL h kt) (fun _ t8 => ?_)
  refine st_tabK 9 (v := 9) (tgt := 443) dL_law_32 rfl rfl (by decide) (by decide) (fun _ => lc_alter h5 hL h kt) (fun _ t9 => ?_)
  refine st_tabK 10 (v := 10) (tgt := 486) dL_law_32 rfl rfl (by decide) (by decide) (fun _ => lc_tide h5 hL h kt) (fun _ t10 => ?_)
  refine st_tabK 11 (v := 11) (tgt := 519) dL_law_32 rfl rfl (by decide) (by decide) (fun _ => lc_blow h5 hL h kt) (fun _ t11 => ?_)
  refine st_tabK 12 (v := 12) (tgt := 542) dL_law_32 rfl rfl (by decide) (by decide) (fun _ => lc_stow h5 hL h kt) (fun _ t12 => ?_)
  refine st_tabK 13 (v := 13) (tgt := 565) dL_law_32 rfl rfl (by decide) (by decide) (fun _ => lc_fetch h5 hL h kt) (fun _ t13 => ?_)
  refine st_tabK 14 (v := 14) (tgt := 588) dL_law_32 rfl rfl (by decide) (by decide) (fun _ => lc_days h5 hL h kt) (fun _ t14 => ?_)
  refine st_tabK 15 (v := 15) (tgt := 611) dL_law_32 rfl rfl (by decide) (by decide) (fun _ => lc_runs h5 hL h kt) (fun _ t15 => ?_)
  refine st_tabK 16 (v := 16) (tgt := 644) dL_law_32 rfl rfl (by decide) (by decide) (fun _ => lc_ahead h5 hL h kt) (fun _ t16 => ?_)
  refine st_tabK 17 (v := 17) (tgt := 687) dL_law_32 rfl rfl (by decide) (by decide) (fun _ => lc_lost h5 hL h kt) (fun _ t17 => ?_)
  refine st_tabK 18 (v := 18) (tgt := 710) dL_law_32 rfl rfl (by decide) (by decide) (fun _ => lc_meet h5 hL h kt) (fun _ t18 => ?_)
  refine st_tabK 19 (v := 19) (tgt := 743) dL_law_32 rfl rfl (by decide) (by decide) (fun _ => lc_pack h5 hL h kt) (fun _ t19 => ?_)
  refine st_tabK 20 (v := 20) (tgt := 776) dL_law_32 rfl rfl (by decide) (by decide) (fun _ => lc_need h5 hL h kt) (fun _ t20 => ?_)
  refine st_tabK 21 (v := 21) (tgt := 809) dL_law_32 rfl rfl (by decide) (by decide) (fun _ => lc_high h5 hL h kt) (fun _ t21 => ?_)
  refine st_tabK 22 (v := 22) (tgt := 842) dL_law_32 rfl rfl (by decide) (by decide) (fun _ => lc_leak h5 hL h kt) (fun _ t22 => ?_)
  refine st_tabK 23 (v := 23) (tgt := 875) dL_law_32 rfl rfl (by decide) (by decide) (fun _ => lc_swap h5 hL h kt) (fun _ t23 => ?_)
  refine st_tabK 24 (v := 24) (tgt := 908) dL_law_32 rfl rfl (by decide) (by decide) (fun _ => lc_save h5 hL h kt) (fun _ t24 => ?_)
  refine st_tabK 25 (v := 25) (tgt := 941) dL_law_32 rfl rfl (by decide) (by decide) (fun _ => lc_kind h5 hL h kt) (fun _ t25 => ?_)
  refine st_tabK 26 (v := 26) (tgt := 984) dL_law_32 rfl rfl (by decide) (by decide) (fun _ => lc_luck h5 hL h kt) (fun _ t26 => ?_)
  refine st_tabK 27 (v := 27) (tgt := 1038) dL_law_32 rfl rfl (by decide) (by decide) (fun _ => lc_mean h5 hL h kt) (fun _ t27 => ?_)
  refine st_tabK 28 (v := 28) (tgt := 1082) dL_law_32 rfl rfl (by decide) (by decide) (fun _ => lc_see h5 hL h kt) (fun _ t28 => ?_)
  refine st_tabK 29 (v := 29) (tgt := 1115) dL_law_32 rfl rfl (by decide) (by decide) (fun _ => lc_forget h5 hL h kt) (fun _ t29 => ?_)
  refine st_tabK 30 (v := 30) (tgt := 1138) dL_law_32 rfl rfl (by decide) (by decide) (fun _ => lc_kinds h5 hL h kt) (fun _ t30 => ?_)
  refine st_tabK 31 (v := 31) (tgt := 1161) dL_law_32 rfl rfl (by decide) (by decide) (fun _ => lc_leaks h5 hL h kt) (fun _ t31 => ?_)
  refine st_tabK 32 (v := 32) (tgt := 1184) dL_law_32 rfl rfl (by decide) (by decide) (fun _ => lc_rooms h5 hL h kt) (fun _ t32 => ?_)
  refine st_tabK 33 (v := 33) (tgt := 1207) dL_law_32 rfl rfl (by decide) (by decide) (fun _ => lc_ask h5 hL h kt) (fun _ t33 => ?_)
  refine st_tabK 34 (v := 34) (tgt := 1240) dL_law_32 rfl rfl (by decide) (by decide) (fun _ => lc_drift h5 hL h kt) (fun _ t34 => ?_)
  refine st_tabK 35 (v := 35) (tgt := 1283) dL_law_32 rfl rfl (by decide) (by decide) (fun _ => lc_keep h5 hL h kt) (fun _ t35 => ?_)
  refine st_tabK 36 (v := 36) (tgt := 1306) dL_law_32 rfl rfl (by decide) (by decide) (fun _ => lc_back h5 hL h kt) (fun _ t36 => ?_)
  refine st_tabK 37 (v := 37) (tgt := 1329) dL_law_32 rfl rfl (by decide) (by decide) (fun _ => lc_sheet h5 hL h kt) (fun _ t37 => ?_)
  refine st_tabK 38 (v := 38) (tgt := 1372) dL_law_32 rfl rfl (by decide) (by decide) (fun _ => lc_lay h5 hL h kt) (fun _ t38 => ?_)
  refine st_tabK 39 (v := 39) (tgt := 1415) dL_law_32 rfl rfl (by decide) (by decide) (fun _ => lc_read h5 hL h kt) (fun _ t39 => ?_)
  refine st_tabK 40 (v := 40) (tgt := 1468) dL_law_32 rfl rfl (by decide) (by decide) (fun _ => lc_torn h5 hL h kt) (fun _ t40 => ?_)
  refine st_tabK 41 (v := 41) (tgt := 1481) dL_law_32 rfl rfl (by decide) (by decide) (fun _ => lc_count h5 hL h kt) (fun _ t41 => ?_)
  exact st_tableOut (tgt := 1504) dL_law_32 (by omega) rfl (kt w h)
set_option maxRecDepth 100000 in
set_option maxHeartbeats 4000000 in
theorem lw_loop {E : ev_E} (hL : E.2.2.2.1 ≤ 320) : ∀ (d i : Nat) (w : ev_W), i ≤ 325 → E.2.2.2.1 + 5 - i ≤ d → LW w → Ev E mL 18 [some (.ref 1010), some (.ref 0), some (.ref 70), some (.int (nI i))] [] 82 w (82, 2968) qL := by
  intro d
  induction d with
  | zero =>
    intro i w hi hd h
    exact lw_tick hL hi h (fun hi' => absurd hi' (by omega)) 
  | succ d ih =>
    intro i w hi hd h
    exact lw_tick hL hi h (fun hi' w' h' => ih (i + 5) w' (by omega) (by omega) h')
set_option maxRecDepth 100000 in
set_option maxHeartbeats 4000000 in
theorem lw_body {E : ev_E} (hL : E.2.2.2.1 ≤ 320) {w : ev_W} : Ev E mL 0 [some (.ref 1010), none, none, none] [] 0 w (0, 0) qL := by
  refine k_new (q := 3) (fs := [.null, .null, .null, .int 0, .null, .int 0, .null, .null, .null, .int 0]) (cs' := (1, 10)) dL_law_0 rfl ci_X6 cl_L_7 is_X6 iz_X6 (by decide) (by simp [ev_ext, ev_cv]) (by omega) rfl (Nat.le_of_ble_eq_true rfl) (Nat.le_of_ble_eq_true rfl) (fun w h9 r9 => ?_)
  refine st_dup (q := 4) dL_law_3 rfl rfl ?_
  refine st_I0 (q := 7) (cs' := (70, 1402)) (M' := mX6_init) dL_law_4 rfl ok_X6_init mk_X6_init ml_L_9 ⟨(Nat.le_of_ble_eq_true rfl), (Nat.le_of_ble_eq_true rfl)⟩ rfl (Nat.le_of_ble_eq_true rfl) rfl (Nat.le_of_ble_eq_true rfl) (Nat.le_of_ble_eq_true rfl) (c_X6_init h9) ?_
  intro _ n9 w h9 _
  obtain ⟨rfl, rfl, hX⟩ := h9
  refine st_astore_n (q := 8) (L' := [_, some (.ref 0), none, none]) dL_law_7 rfl rfl (Nat.le_of_ble_eq_true rfl) rfl ?_
  refine k_new (q := 11) (fs := [.null, .int 0, .int 0, .null, .int 0, .int 0, .int 0, .int 0, .int 0, .null, .int 0, .int 0, .int 0, .int 0, .int 0, .int 0, .int 0, .int 0, .null, .null, .int 0, .null, .int 0, .null, .null, .null, .null, .null, .int 0]) (cs' := (71, 1431)) dL_law_8 rfl ci_X7 cl_L_10 is_X7 iz_X7 (by decide) (by simp [ev_ext, ev_cv]) (by omega) rfl (Nat.le_of_ble_eq_true rfl) (Nat.le_of_ble_eq_true rfl) (fun w h9 r9 => ?_)
  replace hX := hX.keep (fun k hk => r9 k (by omega))
  refine st_dup (q := 12) dL_law_11 rfl rfl ?_
  refine st_I0 (q := 15) (cs' := (82, 2968)) (M' := mX7_init) dL_law_12 rfl ok_X7_init mk_X7_init ml_L_12 ⟨(Nat.le_of_ble_eq_true rfl), (Nat.le_of_ble_eq_true rfl)⟩ rfl (Nat.le_of_ble_eq_true rfl) rfl (Nat.le_of_ble_eq_true rfl) (Nat.le_of_ble_eq_true rfl) (c_X7_init (b := 70) h9 (by decide)) ?_
  intro _ n9 w h9 _
  obtain ⟨rfl, rfl, hM, r9⟩ := h9
  replace hX := hX.keep (fun k hk => r9 k (by omega))
  refine st_astore_n (q := 16) (L' := [_, _, some (.ref 70), none]) dL_law_15 rfl rfl (Nat.le_of_ble_eq_true rfl) rfl ?_
  refine st_iconst (q := 17) dL_law_16 rfl ic_0 ?_
  refine st_istore_n (q := 18) (L' := [_, _, _, some (.int (nI 0))]) dL_law_17 rfl rfl (Nat.le_of_ble_eq_true rfl) rfl ?_
  refine lw_loop hL _ 0 w (by omega) (Nat.le_refl _) ⟨_, _, _, _, _, _, _, _, _, _, _, _, _, hX.wk (by omega), ?_, GL.ini⟩
  refine GR.congr gzX7 hM (fun i _ => ?_) (fun i o ty len _ j _ => ?_)
  · by_cases hi : i = 0
    · subst hi; rfl
    · simp only [rowT, if_neg hi]
  · by_cases hi : i = 0
    · subst hi; rfl
    · simp only [rowT, if_neg hi]
