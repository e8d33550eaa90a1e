set_option maxRecDepth 100000 in
set_option maxHeartbeats 4000000 in
theorem c_X7_save {E : ev_E} {n : Nat} {w : ev_W} {S0 S : gT} {f0 f : Nat → Int32} {w0 : ev_W} (hF : Fr 70 82 w0 w) (hM : MR S f 70 n w) (hA : QA S0 S f0 f) {T : gT} {nh nt dd : Nat} (hG : GQ S f T nh nt dd) {x y : Int32} : Ct E mX7_save [.ref 70, .int x, .int y] n w (ev_mr (saveS T nh nt dd x y) n w0 (QR S0 f0 n)) := by
  refine Ct.of 4 (by decide) (Nat.le_of_ble_eq_true rfl) rfl ?_
  have hd9 := hG.2.2.2
  have hN9 := hG.1.1.hnt
  have hc9 := hG.1.1.so.2
  refine st_iload_n (q := 1) dX7_save_0 rfl rfl rfl ?_
  refine st_i2l (q := 2) dX7_save_1 rfl ?_
  refine st_lconst (q := 3) dX7_save_2 rfl lc_0 ?_
  refine st_ldc2 (q := 6) dX7_save_3 rfl cn_X7_206 ?_
  refine sp_S3 (q := 9) (M' := mX7_in) dX7_save_6 rfl ok_X7_in mk_X7_in ml_X7_46 ⟨Nat.le_of_ble_eq_true rfl, Nat.le_of_ble_eq_true rfl⟩ rfl (Nat.le_of_ble_eq_true rfl) ⟨rfl, rfl⟩ (c_X7_inI (a := 0) (c := 60) (by decide) (by decide)) ?_
  refine st_if_eq (q := 12) (tgt := 22) dX7_save_9 rfl rfl (fun c_9 => ?_) (fun c_9 => ?_)
  · refine st_iconst (q := 23) dX7_save_22 rfl ic_m1 ?_
    refine st_ireturn dX7_save_23 rfl ?_
    first
      | exact ⟨by rw [saveS, if_neg (by rw [zI_0.mp c_9]; decide)], rfl, ⟨_, _, hM, hA⟩, hF⟩
      | exact ⟨by rw [saveS, if_pos (zI_1.mp c_9), if_neg (by rw [zI_0.mp c_19]; decide)], rfl, ⟨_, _, hM, hA⟩, hF⟩
  · refine st_iload_n (q := 13) dX7_save_12 rfl rfl rfl ?_
    refine st_i2l (q := 14) dX7_save_13 rfl ?_
    refine st_lconst (q := 15) dX7_save_14 rfl lc_0 ?_
    refine st_lconst (q := 16) dX7_save_15 rfl lc_1 ?_
    refine sp_S3 (q := 19) (M' := mX7_in) dX7_save_16 rfl ok_X7_in mk_X7_in ml_X7_46 ⟨Nat.le_of_ble_eq_true rfl, Nat.le_of_ble_eq_true rfl⟩ rfl (Nat.le_of_ble_eq_true rfl) ⟨rfl, rfl⟩ (c_X7_inI (a := 0) (c := 1) (by decide) (by decide)) ?_
    refine st_if_ne (q := 22) (tgt := 24) dX7_save_19 rfl rfl (fun c_19 => ?_) (fun c_19 => ?_)
    · obtain ⟨m, hm, rfl⟩ := inI_k (k := 60) (zI_1.mp c_9) (by decide)
      have h60 : inI (nI m) 0 60 = true := zI_1.mp c_9
      have hmc : (nI m).toNatClampNeg = m := nI_clamp (by omega)
      have h2 : inI y 0 1 = true := zI_1.mp c_19
      refine st_aload_n (q := 25) dX7_save_24 rfl rfl rfl ?_
      refine st_iconst (q := 26) dX7_save_25 rfl ic_0 ?_
      refine st_iload_n (q := 27) dX7_save_26 rfl rfl rfl ?_
      refine sm_V2 (q := 30) (M' := mX7_daysGo) dX7_save_27 rfl ok_X7_daysGo mk_X7_daysGo ml_X7_208 ⟨Nat.le_of_ble_eq_true rfl, Nat.le_of_ble_eq_true rfl⟩ rfl (Nat.le_of_ble_eq_true rfl) (g_rv hM rfl) ⟨rfl, rfl⟩ (c_goT hM hG (p := 0) (by decide) (by decide) hG.1 (m := m) (by omega)) ?_
      intro _ n w h9 _
      obtain ⟨S, f, rfl, rfl, hM, hA_, hR, h20, hF_⟩ := h9
      replace hG := hG.qa hA_
      replace hA := hA.tr hA_
      replace hF := Fr.tr hF hF_
      have hs0 : rg (dysT T dd nh nt m 17 0) 0 999 := hR.1.so.2
      refine st_istore_n (q := 31) (L' := [_, _, _, _, _, _, _]) dX7_save_30 rfl rfl (Nat.le_of_ble_eq_true rfl) rfl ?_
      refine st_bipush (q := 33) dX7_save_31 rfl bp_m4 ?_
      refine st_istore (q := 35) (L' := [_, _, _, _, _, _, _]) dX7_save_33 rfl (Nat.le_of_ble_eq_true rfl) rfl ?_
      refine st_iconst (q := 36) dX7_save_35 rfl ic_0 ?_
      refine st_istore (q := 38) (L' := [_, _, _, _, _, _, _]) dX7_save_36 rfl (Nat.le_of_ble_eq_true rfl) rfl ?_
      have lp : ∀ (k i : Nat), i + k = nt → ∀ (w1 : ev_W) (S1 : gT) (f1 : Nat → Int32) (lq : Option Value), MR S1 f1 70 n w1 → QA S0 S1 f0 f1 → GQ S1 f1 T nh nt dd → Fr 70 82 w0 w1 → rg (saveF T nh nt dd m i).1 0 999 → Ev E mX7_save 38 [some (.ref 70), some (.int (nI m)), some (.int y), some (.int ((saveF T nh nt dd m i).1 - T 17 0)), some (.int (saveF T nh nt dd m i).2), some (.int (nI i)), lq] [] n w1 (0, 0) (ev_mr (saveS T nh nt dd (nI m) y) n w0 (QR S0 f0 n)) := by
        clear hM hA hG hF hR h20
        intro k
        induction k with
        | zero =>
          intro i hi w S f lq hM hA hG hF hrs
          obtain rfl : nt = i := by omega
          refine st_iload (q := 40) dX7_save_38 rfl rfl ?_
          refine st_aload_n (q := 41) dX7_save_40 rfl rfl rfl ?_
          refine m_get (q := 44) dX7_save_41 rfl fl_X7_139.g hM (by decide) rfl ?_
          refine st_icmp_ge (q := 47) (tgt := 111) dX7_save_44 rfl rfl (fun c_44 => ?_) (fun c_44 => False.elim (c_44 (by rw [hG.2.2.1]; exact Int32.le_refl _)))
          refine st_iload (q := 113) dX7_save_111 rfl rfl ?_
          refine st_bipush (q := 115) dX7_save_113 rfl bp_m4 ?_
          refine st_icmp_eq (q := 118) (tgt := 122) dX7_save_115 rfl rfl (fun c_115 => ?_) (fun c_115 => ?_)
          · refine st_iload (q := 124) dX7_save_122 rfl rfl ?_
            refine st_goto (q := 128) dX7_save_124 rfl ?_
            refine st_ireturn dX7_save_128 rfl ?_
            refine ⟨?_, rfl, ⟨_, _, hM, hA⟩, hF⟩
            rw [saveS, if_pos h60, if_pos h2, hmc, boF]
            first
              | rw [if_pos c_115]
              | rw [if_neg c_115, if_pos c_119]
              | rw [if_neg c_115, if_neg c_119]
          · refine st_iload_n (q := 119) dX7_save_118 rfl rfl rfl ?_
            refine st_if_ne (q := 122) (tgt := 127) dX7_save_119 rfl rfl (fun c_119 => ?_) (fun c_119 => ?_)
            · refine st_iload_n (q := 128) dX7_save_127 rfl rfl rfl ?_
              refine st_ireturn dX7_save_128 rfl ?_
              refine ⟨?_, rfl, ⟨_, _, hM, hA⟩, hF⟩
              rw [saveS, if_pos h60, if_pos h2, hmc, boF]
              first
                | rw [if_pos c_115]
                | rw [if_neg c_115, if_pos c_119]
                | rw [if_neg c_115, if_neg c_119]
            · refine st_iload (q := 124) dX7_save_122 rfl rfl ?_
              refine st_goto (q := 128) dX7_save_124 rfl ?_
              refine st_ireturn dX7_save_128 rfl ?_
              refine ⟨?_, rfl, ⟨_, _, hM, hA⟩, hF⟩
              rw [saveS, if_pos h60, if_pos h2, hmc, boF]
              first
                | rw [if_pos c_115]
                | rw [if_neg c_115, if_pos c_119]
                | rw [if_neg c_115, if_neg c_119]
        | succ k ih =>
          intro i hi w S f lq hM hA hG hF hrs
          refine st_iload (q := 40) dX7_save_38 rfl rfl ?_
          refine st_aload_n (q := 41) dX7_save_40 rfl rfl rfl ?_
          refine m_get (q := 44) dX7_save_41 rfl fl_X7_139.g hM (by decide) rfl ?_
          refine st_icmp_ge (q := 47) (tgt := 111) dX7_save_44 rfl rfl (fun c_44 => False.elim (absurd (by rw [← hG.2.2.1]; exact c_44) (nI_ge (a := i) (b := nt) (by omega) (by omega)))) (fun c_44 => ?_)
          refine st_aload_n (q := 48) dX7_save_47 rfl rfl rfl ?_
          refine st_iconst (q := 49) dX7_save_48 rfl ic_0 ?_
          refine st_sipush (q := 52) dX7_save_49 rfl sp_355 ?_
          refine sm_V2 (q := 55) (M' := mX7_copies) dX7_save_52 rfl ok_X7_copies mk_X7_copies ml_X7_200 ⟨Nat.le_of_ble_eq_true rfl, Nat.le_of_ble_eq_true rfl⟩ rfl (Nat.le_of_ble_eq_true rfl) (g_rv hM rfl) ⟨rfl, rfl⟩ (c_copyT hM hG (c := 355) (by decide) (by decide)) ?_
          intro _ n w h9 _
          obtain ⟨f, rfl, rfl, hM, hA_, hR, hF_⟩ := h9
          replace hG := hG.qa hA_
          replace hA := hA.tr hA_
          replace hF := Fr.tr hF hF_
          refine st_aload_n (q := 56) dX7_save_55 rfl rfl rfl ?_
          refine st_sipush (q := 59) dX7_save_56 rfl sp_355 ?_
          refine st_iload (q := 61) dX7_save_59 rfl rfl ?_
          refine sm_V2 (q := 64) (M' := mX7_stowsOn) dX7_save_61 rfl ok_X7_stowsOn mk_X7_stowsOn ml_X7_189 ⟨Nat.le_of_ble_eq_true rfl, Nat.le_of_ble_eq_true rfl⟩ rfl (Nat.le_of_ble_eq_true rfl) (g_rv hM rfl) ⟨rfl, rfl⟩ (c_X7_stowsOn Fr.rf hM (p := 355) (by decide) hR hG.2.2.1) ?_
          intro _ n w h9 _
          obtain ⟨f1, rfl, rfl, hM, hR, ho, hF_⟩ := h9
          have hA_ : QA S S f f1 := ⟨fun q hq => ho q (by omega), fun _ _ _ => rfl⟩
          replace hG := hG.qa hA_
          replace hA := hA.tr hA_
          replace hF := Fr.tr hF hF_
          refine st_if_lt (q := 67) (tgt := 105) dX7_save_64 rfl rfl (fun c_64 => ?_) (fun c_64 => ?_)
          · refine st_iinc (q := 108) (L' := [_, _, _, _, _, _, _]) dX7_save_105 rfl rfl (nI_succ _).symm (Nat.le_of_ble_eq_true rfl) rfl ?_
            refine st_goto (q := 38) dX7_save_108 rfl ?_
            have ih9 := fun lq => ih (i + 1) (by omega) w S _ lq hM hA hG hF
            first
              | exact absurd c_80 c_95
              | exact absurd c_95 c_80
              | (have e9 : saveF T nh nt dd m (i + 1) = (dysT (puT T (nI i) nt).2 dd nh nt m 17 0, nI i) := mnF_y (show (fun i => decide (0 ≤ (puT T (nI i) nt).1)) i = true from decide_eq_true (Int32.not_lt.mp c_64)) (fun z => c_80 (hcm.mpr z))
                 rw [e9] at ih9; exact ih9 _ hrv)
              | (have e9 : saveF T nh nt dd m (i + 1) = saveF T nh nt dd m i := mnF_k (show (fun i => decide (0 ≤ (puT T (nI i) nt).1)) i = true from decide_eq_true (Int32.not_lt.mp c_64)) (hcm.mp c_80)
                 rw [e9] at ih9; exact ih9 _ hrs)
              | (have e9 : saveF T nh nt dd m (i + 1) = saveF T nh nt dd m i := mnF_n (show ¬ (fun i => decide (0 ≤ (puT T (nI i) nt).1)) i = true from fun z => absurd c_64 (Int32.not_lt.mpr (of_decide_eq_true z)))
                 rw [e9] at ih9; exact ih9 _ hrs)
          · refine st_aload_n (q := 68) dX7_save_67 rfl rfl rfl ?_
            refine st_sipush (q := 71) dX7_save_68 rfl sp_355 ?_
            refine st_iload_n (q := 72) dX7_save_71 rfl rfl rfl ?_
            refine sm_V2 (q := 75) (M' := mX7_daysGo) dX7_save_72 rfl ok_X7_daysGo mk_X7_daysGo ml_X7_208 ⟨Nat.le_of_ble_eq_true rfl, Nat.le_of_ble_eq_true rfl⟩ rfl (Nat.le_of_ble_eq_true rfl) (g_rv hM rfl) ⟨rfl, rfl⟩ (c_goT hM hG (p := 355) (by decide) (by decide) hR (m := m) (by omega)) ?_
            intro _ n w h9 _
            obtain ⟨S, f, rfl, rfl, hM, hA_, hR, h20, hF_⟩ := h9
            replace hG := hG.qa hA_
            replace hA := hA.tr hA_
            replace hF := Fr.tr hF hF_
            have hrv : rg (dysT (puT T (nI i) nt).2 dd nh nt m 17 0) 0 999 := hR.1.so.2
            have hcm := sub_le hrs hrv hc9
            refine st_istore (q := 77) (L' := [_, _, _, _, _, _, _]) dX7_save_75 rfl (Nat.le_of_ble_eq_true rfl) rfl ?_
            refine st_iload (q := 79) dX7_save_77 rfl rfl ?_
            refine st_iload_n (q := 80) dX7_save_79 rfl rfl rfl ?_
            refine st_icmp_ge (q := 83) (tgt := 88) dX7_save_80 rfl rfl (fun c_80 => ?_) (fun c_80 => ?_)
            · refine st_iload (q := 90) dX7_save_88 rfl rfl ?_
              refine st_istore (q := 92) (L' := [_, _, _, _, _, _, _]) dX7_save_90 rfl (Nat.le_of_ble_eq_true rfl) rfl ?_
              refine st_iload (q := 94) dX7_save_92 rfl rfl ?_
              refine st_iload_n (q := 95) dX7_save_94 rfl rfl rfl ?_
              refine st_icmp_ge (q := 98) (tgt := 103) dX7_save_95 rfl rfl (fun c_95 => ?_) (fun c_95 => ?_)
              · refine st_iload_n (q := 104) dX7_save_103 rfl rfl rfl ?_
                refine st_istore_n (q := 105) (L' := [_, _, _, _, _, _, _]) dX7_save_104 rfl rfl (Nat.le_of_ble_eq_true rfl) rfl ?_
                refine st_iinc (q := 108) (L' := [_, _, _, _, _, _, _]) dX7_save_105 rfl rfl (nI_succ _).symm (Nat.le_of_ble_eq_true rfl) rfl ?_
                refine st_goto (q := 38) dX7_save_108 rfl ?_
                have ih9 := fun lq => ih (i + 1) (by omega) w S _ lq hM hA hG hF
                first
                  | exact absurd c_80 c_95
                  | exact absurd c_95 c_80
                  | (have e9 : saveF T nh nt dd m (i + 1) = (dysT (puT T (nI i) nt).2 dd nh nt m 17 0, nI i) := mnF_y (show (fun i => decide (0 ≤ (puT T (nI i) nt).1)) i = true from decide_eq_true (Int32.not_lt.mp c_64)) (fun z => c_80 (hcm.mpr z))
                     rw [e9] at ih9; exact ih9 _ hrv)
                  | (have e9 : saveF T nh nt dd m (i + 1) = saveF T nh nt dd m i := mnF_k (show (fun i => decide (0 ≤ (puT T (nI i) nt).1)) i = true from decide_eq_true (Int32.not_lt.mp c_64)) (hcm.mp c_80)
                     rw [e9] at ih9; exact ih9 _ hrs)
                  | (have e9 : saveF T nh nt dd m (i + 1) = saveF T nh nt dd m i := mnF_n (show ¬ (fun i => decide (0 ≤ (puT T (nI i) nt).1)) i = true from fun z => absurd c_64 (Int32.not_lt.mpr (of_decide_eq_true z)))
                     rw [e9] at ih9; exact ih9 _ hrs)
              · refine st_iload (q := 100) dX7_save_98 rfl rfl ?_
                refine st_goto (q := 104) dX7_save_100 rfl ?_
                refine st_istore_n (q := 105) (L' := [_, _, _, _, _, _, _]) dX7_save_104 rfl rfl (Nat.le_of_ble_eq_true rfl) rfl ?_
                refine st_iinc (q := 108) (L' := [_, _, _, _, _, _, _]) dX7_save_105 rfl rfl (nI_succ _).symm (Nat.le_of_ble_eq_true rfl) rfl ?_
                refine st_goto (q := 38) dX7_save_108 rfl ?_
                have ih9 := fun lq => ih (i + 1) (by omega) w S _ lq hM hA hG hF
                first
                  | exact absurd c_80 c_95
                  | exact absurd c_95 c_80
                  | (have e9 : saveF T nh nt dd m (i + 1) = (dysT (puT T (nI i) nt).2 dd nh nt m 17 0, nI i) := mnF_y (show (fun i => decide (0 ≤ (puT T (nI i) nt).1)) i = true from decide_eq_true (Int32.not_lt.mp c_64)) (fun z => c_80 (hcm.mpr z))
                     rw [e9] at ih9; exact ih9 _ hrv)
                  | (have e9 : saveF T nh nt dd m (i + 1) = saveF T nh nt dd m i := mnF_k (show (fun i => decide (0 ≤ (puT T (nI i) nt).1)) i = true from decide_eq_true (Int32.not_lt.mp c_64)) (hcm.mp c_80)
                     rw [e9] at ih9; exact ih9 _ hrs)
                  | (have e9 : saveF T nh nt dd m (i + 1) = saveF T nh nt dd m i := mnF_n (show ¬ (fun i => decide (0 ≤ (puT T (nI i) nt).1)) i = true from fun z => absurd c_64 (Int32.not_lt.mpr (of_decide_eq_true z)))
                     rw [e9] at ih9; exact ih9 _ hrs)
            · refine st_iload (q := 85) dX7_save_83 rfl rfl ?_
              refine st_goto (q := 90) dX7_save_85 rfl ?_
              refine st_istore (q := 92) (L' := [_, _, _, _, _, _, _]) dX7_save_90 rfl (Nat.le_of_ble_eq_true rfl) rfl ?_
              refine st_iload (q := 94) dX7_save_92 rfl rfl ?_
              refine st_iload_n (q := 95) dX7_save_94 rfl rfl rfl ?_
              refine st_icmp_ge (q := 98) (tgt := 103) dX7_save_95 rfl rfl (fun c_95 => ?_) (fun c_95 => ?_)
              · refine st_iload_n (q := 104) dX7_save_103 rfl rfl rfl ?_
                refine st_istore_n (q := 105) (L' := [_, _, _, _, _, _, _]) dX7_save_104 rfl rfl (Nat.le_of_ble_eq_true rfl) rfl ?_
                refine st_iinc (q := 108) (L' := [_, _, _, _, _, _, _]) dX7_save_105 rfl rfl (nI_succ _).symm (Nat.le_of_ble_eq_true rfl) rfl ?_
                refine st_goto (q := 38) dX7_save_108 rfl ?_
                have ih9 := fun lq => ih (i + 1) (by omega) w S _ lq hM hA hG hF
                first
                  | exact absurd c_80 c_95
                  | exact absurd c_95 c_80
                  | (have e9 : saveF T nh nt dd m (i + 1) = (dysT (puT T (nI i) nt).2 dd nh nt m 17 0, nI i) := mnF_y (show (fun i => decide (0 ≤ (puT T (nI i) nt).1)) i = true from decide_eq_true (Int32.not_lt.mp c_64)) (fun z => c_80 (hcm.mpr z))
                     rw [e9] at ih9; exact ih9 _ hrv)
                  | (have e9 : saveF T nh nt dd m (i + 1) = saveF T nh nt dd m i := mnF_k (show (fun i => decide (0 ≤ (puT T (nI i) nt).1)) i = true from decide_eq_true (Int32.not_lt.mp c_64)) (hcm.mp c_80)
                     rw [e9] at ih9; exact ih9 _ hrs)
                  | (have e9 : saveF T nh nt dd m (i + 1) = saveF T nh nt dd m i := mnF_n (show ¬ (fun i => decide (0 ≤ (puT T (nI i) nt).1)) i = true from fun z => absurd c_64 (Int32.not_lt.mpr (of_decide_eq_true z)))
                     rw [e9] at ih9; exact ih9 _ hrs)
              · refine st_iload (q := 100) dX7_save_98 rfl rfl ?_
                refine st_goto (q := 104) dX7_save_100 rfl ?_
                refine st_istore_n (q := 105) (L' := [_, _, _, _, _, _, _]) dX7_save_104 rfl rfl (Nat.le_of_ble_eq_true rfl) rfl ?_
                refine st_iinc (q := 108) (L' := [_, _, _, _, _, _, _]) dX7_save_105 rfl rfl (nI_succ _).symm (Nat.le_of_ble_eq_true rfl) rfl ?_
                refine st_goto (q := 38) dX7_save_108 rfl ?_
                have ih9 := fun lq => ih (i + 1) (by omega) w S _ lq hM hA hG hF
                first
                  | exact absurd c_80 c_95
                  | exact absurd c_95 c_80
                  | (have e9 : saveF T nh nt dd m (i + 1) = (dysT (puT T (nI i) nt).2 dd nh nt m 17 0, nI i) := mnF_y (show (fun i => decide (0 ≤ (puT T (nI i) nt).1)) i = true from decide_eq_true (Int32.not_lt.mp c_64)) (fun z => c_80 (hcm.mpr z))
                     rw [e9] at ih9; exact ih9 _ hrv)
                  | (have e9 : saveF T nh nt dd m (i + 1) = saveF T nh nt dd m i := mnF_k (show (fun i => decide (0 ≤ (puT T (nI i) nt).1)) i = true from decide_eq_true (Int32.not_lt.mp c_64)) (hcm.mp c_80)
                     rw [e9] at ih9; exact ih9 _ hrs)
                  | (have e9 : saveF T nh nt dd m (i + 1) = saveF T nh nt dd m i := mnF_n (show ¬ (fun i => decide (0 ≤ (puT T (nI i) nt).1)) i = true from fun z => absurd c_64 (Int32.not_lt.mpr (of_decide_eq_true z)))
                     rw [e9] at ih9; exact ih9 _ hrs)
      exact lp nt 0 (by omega) w S f _ hM hA hG hF hs0
    · refine st_iconst (q := 23) dX7_save_22 rfl ic_m1 ?_
      refine st_ireturn dX7_save_23 rfl ?_
      first
        | exact ⟨by rw [saveS, if_neg (by rw [zI_0.mp c_9]; decide)], rfl, ⟨_, _, hM, hA⟩, hF⟩
        | exact ⟨by rw [saveS, if_pos (zI_1.mp c_9), if_neg (by rw [zI_0.mp c_19]; decide)], rfl, ⟨_, _, hM, hA⟩, hF⟩
def kdF (T : gT) (nh nt dd m j : Nat) : Nat → Int32 × Int32 := mnF (fun _ => true) (fun k => dysT (tup T 7 j (nI k)) dd nh nt m 17 0) nI (1000, -4)
def KI (T : gT) (nh nt dd m j i : Nat) (a b : Int32) : Prop := (i = 0 ∧ a = 1000 ∧ b = 0) ∨ (0 < i ∧ a = (kdF T nh nt dd m j i).1 - T 17 0 ∧ b = (kdF T nh nt dd m j i).2 ∧ rg (kdF T nh nt dd m j i).1 0 999 ∧ ¬ (kdF T nh nt dd m j i).2 = -4)
theorem nI_n4 {i : Nat} (h : i < 2 ^ 31) : ¬ nI i = -4 := fun z => by
  have := nI_toInt h
  rw [z] at this
  have e : (-4 : Int32).toInt = -4 := by decide
  omega
theorem KI.y {T : gT} {nh nt dd m j i : Nat} {a b : Int32} (h : KI T nh nt dd m j i a b) (hi : i < 4) (hc : rg (T 17 0) 0 999) (hs : rg (dysT (tup T 7 j (nI i)) dd nh nt m 17 0) 0 999) (hl : ¬ a ≤ dysT (tup T 7 j (nI i)) dd nh nt m 17 0 - T 17 0) : KI T nh nt dd m j (i + 1) (dysT (tup T 7 j (nI i)) dd nh nt m 17 0 - T 17 0) (nI i) := by
  have e9 : kdF T nh nt dd m j (i + 1) = (dysT (tup T 7 j (nI i)) dd nh nt m 17 0, nI i) := by
    refine mnF_y rfl (fun z => hl ?_)
    rcases h with ⟨rfl, rfl, rfl⟩ | ⟨h0, rfl, rfl, h1, h2⟩
    · exfalso
      have z1 : (1000 : Int32) ≤ dysT (tup T 7 j (nI 0)) dd nh nt m 17 0 := z
      have z2 := Int32.le_iff_toInt_le.mp z1
      have e : (1000 : Int32).toInt = 1000 := by decide
      have := hs.2
      omega
    · exact (sub_le h1 hs hc).mpr z
  refine Or.inr ⟨by omega, ?_, ?_, ?_, ?_⟩ <;> rw [e9]
  · exact hs
  · exact nI_n4 (by omega)
theorem KI.n {T : gT} {nh nt dd m j i : Nat} {a b : Int32} (h : KI T nh nt dd m j i a b) (hc : rg (T 17 0) 0 999) (hs : rg (dysT (tup T 7 j (nI i)) dd nh nt m 17 0) 0 999) (hl : a ≤ dysT (tup T 7 j (nI i)) dd nh nt m 17 0 - T 17 0) : KI T nh nt dd m j (i + 1) a b := by
  rcases h with ⟨rfl, rfl, rfl⟩ | ⟨h0, rfl, rfl, h1, h2⟩
  · exfalso
    have e : (1000 : Int32).toInt = 1000 := by decide
    unfold rg at *
    have := Int32.le_iff_toInt_le.mp hl
    rw [e, ti_sub (by omega) (by omega)] at this
    omega
  · have e9 : kdF T nh nt dd m j (i + 1) = kdF T nh nt dd m j i := mnF_k rfl ((sub_le h1 hs hc).mp hl)
    refine Or.inr ⟨by omega, ?_, ?_, ?_, ?_⟩ <;> rw [e9]
    · exact h1
    · exact h2
set_option maxRecDepth 100000 in
set_option maxHeartbeats 4000000 in
theorem c_X7_kind {E : ev_E} {n : Nat} {w : ev_W} {S0 S : gT} {f0 f : Nat → Int32} {w0 : ev_W} (hF : Fr 70 82 w0 w) (hM : MR S f 70 n w) (hA : QA S0 S f0 f) {T : gT} {nh nt dd : Nat} (hG : GQ S f T nh nt dd) {x y z : Int32} : Ct E mX7_kind [.ref 70, .int x, .int y, .int z] n w (ev_mr (kindS T nh nt dd x y z) n w0 (QR S0 f0 n)) := by
  refine Ct.of 4 (by decide) (Nat.le_of_ble_eq_true rfl) rfl ?_
  have hd9 := hG.2.2.2
  have hc9 := hG.1.1.so.2
  refine st_aload_n (q := 1) dX7_kind_0 rfl rfl rfl ?_
  refine st_iload_n (q := 2) dX7_kind_1 rfl rfl rfl ?_
  refine sp_V1 (q := 5) (M' := mX7_isThing) dX7_kind_2 rfl ok_X7_isThing mk_X7_isThing ml_X7_176 ⟨Nat.le_of_ble_eq_true rfl, Nat.le_of_ble_eq_true rfl⟩ rfl (Nat.le_of_ble_eq_true rfl) (g_rv hM rfl) ⟨rfl, rfl⟩ (c_X7_isThing hM) ?_
  refine st_if_eq (q := 8) (tgt := 30) dX7_kind_5 rfl rfl (fun c_5 => ?_) (fun c_5 => ?_)
  · refine st_iconst (q := 31) dX7_kind_30 rfl ic_m1 ?_
    refine st_ireturn dX7_kind_31 rfl ?_
    first
      | exact ⟨by rw [kindS, if_neg (by rw [← hG.2.2.1, zI_0.mp c_5]; decide)], rfl, ⟨_, _, hM, hA⟩, hF⟩
      | exact ⟨by rw [kindS, if_pos (by rw [← hG.2.2.1]; exact zI_1.mp c_5), if_neg (by rw [zI_0.mp c_17]; decide)], rfl, ⟨_, _, hM, hA⟩, hF⟩
      | exact ⟨by rw [kindS, if_pos (by rw [← hG.2.2.1]; exact zI_1.mp c_5), if_pos (zI_1.mp c_17), if_neg (by rw [zI_0.mp c_27]; decide)], rfl, ⟨_, _, hM, hA⟩, hF⟩
  · refine st_iload_n (q := 9) dX7_kind_8 rfl rfl rfl ?_
    refine st_i2l (q := 10) dX7_kind_9 rfl ?_
    refine st_lconst (q := 11) dX7_kind_10 rfl lc_0 ?_
    refine st_ldc2 (q := 14) dX7_kind_11 rfl cn_X7_206 ?_
    refine sp_S3 (q := 17) (M' := mX7_in) dX7_kind_14 rfl ok_X7_in mk_X7_in ml_X7_46 ⟨Nat.le_of_ble_eq_true rfl, Nat.le_of_ble_eq_true rfl⟩ rfl (Nat.le_of_ble_eq_true rfl) ⟨rfl, rfl⟩ (c_X7_inI (a := 0) (c := 60) (by decide) (by decide)) ?_
    refine st_if_eq (q := 20) (tgt := 30) dX7_kind_17 rfl rfl (fun c_17 => ?_) (fun c_17 => ?_)
    · refine st_iconst (q := 31) dX7_kind_30 rfl ic_m1 ?_
      refine st_ireturn dX7_kind_31 rfl ?_
      first
        | exact ⟨by rw [kindS, if_neg (by rw [← hG.2.2.1, zI_0.mp c_5]; decide)], rfl, ⟨_, _, hM, hA⟩, hF⟩
        | exact ⟨by rw [kindS, if_pos (by rw [← hG.2.2.1]; exact zI_1.mp c_5), if_neg (by rw [zI_0.mp c_17]; decide)], rfl, ⟨_, _, hM, hA⟩, hF⟩
        | exact ⟨by rw [kindS, if_pos (by rw [← hG.2.2.1]; exact zI_1.mp c_5), if_pos (zI_1.mp c_17), if_neg (by rw [zI_0.mp c_27]; decide)], rfl, ⟨_, _, hM, hA⟩, hF⟩
    · refine st_iload_n (q := 21) dX7_kind_20 rfl rfl rfl ?_
      refine st_i2l (q := 22) dX7_kind_21 rfl ?_
      refine st_lconst (q := 23) dX7_kind_22 rfl lc_0 ?_
      refine st_lconst (q := 24) dX7_kind_23 rfl lc_1 ?_
      refine sp_S3 (q := 27) (M' := mX7_in) dX7_kind_24 rfl ok_X7_in mk_X7_in ml_X7_46 ⟨Nat.le_of_ble_eq_true rfl, Nat.le_of_ble_eq_true rfl⟩ rfl (Nat.le_of_ble_eq_true rfl) ⟨rfl, rfl⟩ (c_X7_inI (a := 0) (c := 1) (by decide) (by decide)) ?_
      refine st_if_ne (q := 30) (tgt := 32) dX7_kind_27 rfl rfl (fun c_27 => ?_) (fun c_27 => ?_)
      · have hN9 := hG.1.1.hnt
        obtain ⟨j, hj, rfl⟩ := inI_ix (by rw [← hG.2.2.1]; exact zI_1.mp c_5) (by omega)
        have h1 : inI (nI j) 0 (nI nt - 1) = true := by rw [← hG.2.2.1]; exact zI_1.mp c_5
        have hjc : (nI j).toNatClampNeg = j := nI_clamp (by omega)
        obtain ⟨m, hm, rfl⟩ := inI_k (k := 60) (zI_1.mp c_17) (by decide)
        have h60 : inI (nI m) 0 60 = true := zI_1.mp c_17
        have hmc : (nI m).toNatClampNeg = m := nI_clamp (by omega)
        have h2 : inI z 0 1 = true := zI_1.mp c_27
        refine st_sipush (q := 35) dX7_kind_32 rfl sp_1000 ?_
        refine st_istore (q := 37) (L' := [_, _, _, _, _, _, _, _]) dX7_kind_35 rfl (Nat.le_of_ble_eq_true rfl) rfl ?_
        refine st_iconst (q := 38) dX7_kind_37 rfl ic_0 ?_
        refine st_istore (q := 40) (L' := [_, _, _, _, _, _, _, _]) dX7_kind_38 rfl (Nat.le_of_ble_eq_true rfl) rfl ?_
        refine st_iconst (q := 41) dX7_kind_40 rfl ic_0 ?_
        refine st_istore (q := 43) (L' := [_, _, _, _, _, _, _, _]) dX7_kind_41 rfl (Nat.le_of_ble_eq_true rfl) rfl ?_
        have lp : ∀ (k i : Nat), i + k = 4 → ∀ (w1 : ev_W) (S1 : gT) (f1 : Nat → Int32) (lq : Option Value) (a9 b9 : Int32), MR S1 f1 70 n w1 → QA S0 S1 f0 f1 → GQ S1 f1 T nh nt dd → Fr 70 82 w0 w1 → KI T nh nt dd m j i a9 b9 → Ev E mX7_kind 43 [some (.ref 70), some (.int (nI j)), some (.int (nI m)), some (.int z), some (.int a9), some (.int b9), some (.int (nI i)), lq] [] n w1 (0, 0) (ev_mr (kindS T nh nt dd (nI j) (nI m) z) n w0 (QR S0 f0 n)) := by
          clear hM hA hG hF
          intro k
          induction k with
          | zero =>
            intro i hi w S f lq a9 b9 hM hA hG hF hK
            obtain rfl : 4 = i := by omega
            refine st_iload (q := 45) dX7_kind_43 rfl rfl ?_
            refine st_iconst (q := 46) dX7_kind_45 rfl ic_4 ?_
            refine st_icmp_ge (q := 49) (tgt := 117) dX7_kind_46 rfl rfl (fun c_46 => ?_) (fun c_46 => False.elim (c_46 (by decide)))
            refine st_iload_n (q := 118) dX7_kind_117 rfl rfl rfl ?_
            refine st_if_ne (q := 121) (tgt := 126) dX7_kind_118 rfl rfl (fun c_118 => ?_) (fun c_118 => ?_)
            · refine st_iload (q := 128) dX7_kind_126 rfl rfl ?_
              refine st_ireturn dX7_kind_128 rfl ?_
              refine ⟨?_, rfl, ⟨_, _, hM, hA⟩, hF⟩
              rcases hK with ⟨z0, _⟩ | ⟨_, ea, eb, _, hn4⟩
              · exact absurd z0 (by decide)
              · rw [kindS, if_pos h1, if_pos h60, if_pos h2, hjc, hmc]
                have hn5 : boF (kdF T nh nt dd m j 4).2 (kdF T nh nt dd m j 4).1 z (T 17 0) = if z = 0 then b9 else a9 := by rw [boF, if_neg hn4, ← ea, ← eb]
                first
                  | (rw [if_pos c_118] at hn5; exact congrArg (fun r => some (Value.int r)) hn5.symm)
                  | (rw [if_neg c_118] at hn5; exact congrArg (fun r => some (Value.int r)) hn5.symm)
            · refine st_iload (q := 123) dX7_kind_121 rfl rfl ?_
              refine st_goto (q := 128) dX7_kind_123 rfl ?_
              refine st_ireturn dX7_kind_128 rfl ?_
              refine ⟨?_, rfl, ⟨_, _, hM, hA⟩, hF⟩
              rcases hK with ⟨z0, _⟩ | ⟨_, ea, eb, _, hn4⟩
              · exact absurd z0 (by decide)
              · rw [kindS, if_pos h1, if_pos h60, if_pos h2, hjc, hmc]
                have hn5 : boF (kdF T nh nt dd m j 4).2 (kdF T nh nt dd m j 4).1 z (T 17 0) = if z = 0 then b9 else a9 := by rw [boF, if_neg hn4, ← ea, ← eb]
                first
                  | (rw [if_pos c_118] at hn5; exact congrArg (fun r => some (Value.int r)) hn5.symm)
                  | (rw [if_neg c_118] at hn5; exact congrArg (fun r => some (Value.int r)) hn5.symm)
          | succ k ih =>
            intro i hi w S f lq a9 b9 hM hA hG hF hK
            refine st_iload (q := 45) dX7_kind_43 rfl rfl ?_
            refine st_iconst (q := 46) dX7_kind_45 rfl ic_4 ?_
            refine st_icmp_ge (q := 49) (tgt := 117) dX7_kind_46 rfl rfl (fun c_46 => False.elim (absurd c_46 (nI_ge (a := i) (b := 4) (by omega) (by omega)))) (fun c_46 => ?_)
            refine st_aload_n (q := 50) dX7_kind_49 rfl rfl rfl ?_
            refine st_iconst (q := 51) dX7_kind_50 rfl ic_0 ?_
            refine st_sipush (q := 54) dX7_kind_51 rfl sp_355 ?_
            refine sm_V2 (q := 57) (M' := mX7_copies) dX7_kind_54 rfl ok_X7_copies mk_X7_copies ml_X7_200 ⟨Nat.le_of_ble_eq_true rfl, Nat.le_of_ble_eq_true rfl⟩ rfl (Nat.le_of_ble_eq_true rfl) (g_rv hM rfl) ⟨rfl, rfl⟩ (c_copyT hM hG (c := 355) (by decide) (by decide)) ?_
            intro _ n w h9 _
            obtain ⟨f, rfl, rfl, hM, hA_, hR, hF_⟩ := h9
            replace hG := hG.qa hA_
            replace hA := hA.tr hA_
            replace hF := Fr.tr hF hF_
            refine st_aload_n (q := 58) dX7_kind_57 rfl rfl rfl ?_
            refine g_getA (q := 61) dX7_kind_58 rfl fl_X7_7.g hM rfl ?_
            refine st_sipush (q := 64) dX7_kind_61 rfl sp_375 ?_
            refine st_iload_n (q := 65) dX7_kind_64 rfl rfl rfl ?_
            refine st_iadd (q := 66) dX7_kind_65 rfl ?_
            refine st_iload (q := 68) dX7_kind_66 rfl rfl ?_
            refine m_sst (q := 69) dX7_kind_68 rfl hM (by exact ix2 (a := 375) (b := j) (by omega) (by decide)) (fun w hM hF_ => ?_)
            replace hF := Fr.tr hF hF_
            replace hR := hR.set7 (k := j) hj (v := nI i) (rg_of (m := 3) (by omega) (by decide))
            replace hG := hG.qa (QA.up (S := S) (j := 375 + j) (v := nI i) (by omega))
            replace hA := hA.tr (QA.up (S := S) (j := 375 + j) (v := nI i) (by omega))
            refine st_aload_n (q := 70) dX7_kind_69 rfl rfl rfl ?_
            refine st_sipush (q := 73) dX7_kind_70 rfl sp_355 ?_
            refine st_iload_n (q := 74) dX7_kind_73 rfl rfl rfl ?_
            refine sm_V2 (q := 77) (M' := mX7_daysGo) dX7_kind_74 rfl ok_X7_daysGo mk_X7_daysGo ml_X7_208 ⟨Nat.le_of_ble_eq_true rfl, Nat.le_of_ble_eq_true rfl⟩ rfl (Nat.le_of_ble_eq_true rfl) (g_rv hM rfl) ⟨rfl, rfl⟩ (c_goT hM hG (p := 355) (by decide) (by decide) hR (m := m) (by omega)) ?_
            intro _ n w h9 _
            obtain ⟨S, f, rfl, rfl, hM, hA_, hR, h20, hF_⟩ := h9
            replace hG := hG.qa hA_
            replace hA := hA.tr hA_
            replace hF := Fr.tr hF hF_
            have hrv : rg (dysT (tup T 7 j (nI i)) dd nh nt m 17 0) 0 999 := hR.1.so.2
            refine st_istore (q := 79) (L' := [_, _, _, _, _, _, _, _]) dX7_kind_77 rfl (Nat.le_of_ble_eq_true rfl) rfl ?_
            refine st_iload (q := 81) dX7_kind_79 rfl rfl ?_
            refine st_iload (q := 83) dX7_kind_81 rfl rfl ?_
            refine st_icmp_ge (q := 86) (tgt := 91) dX7_kind_83 rfl rfl (fun c_83 => ?_) (fun c_83 => ?_)
            · refine st_iload (q := 93) dX7_kind_91 rfl rfl ?_
              refine st_istore (q := 95) (L' := [_, _, _, _, _, _, _, _]) dX7_kind_93 rfl (Nat.le_of_ble_eq_true rfl) rfl ?_
              refine st_iload (q := 97) dX7_kind_95 rfl rfl ?_
              refine st_iload (q := 99) dX7_kind_97 rfl rfl ?_
              refine st_icmp_ge (q := 102) (tgt := 107) dX7_kind_99 rfl rfl (fun c_99 => ?_) (fun c_99 => ?_)
              · refine st_iload (q := 109) dX7_kind_107 rfl rfl ?_
                refine st_istore (q := 111) (L' := [_, _, _, _, _, _, _, _]) dX7_kind_109 rfl (Nat.le_of_ble_eq_true rfl) rfl ?_
                refine st_iinc (q := 114) (L' := [_, _, _, _, _, _, _, _]) dX7_kind_111 rfl rfl (nI_succ _).symm (Nat.le_of_ble_eq_true rfl) rfl ?_
                refine st_goto (q := 43) dX7_kind_114 rfl ?_
                first
                  | exact absurd c_83 c_99
                  | exact absurd c_99 c_83
                  | exact ih (i + 1) (by omega) w S f _ _ _ hM hA hG hF (hK.n hc9 hrv c_83)
                  | exact ih (i + 1) (by omega) w S f _ _ _ hM hA hG hF (hK.y (by omega) hc9 hrv c_83)
              · refine st_iload (q := 104) dX7_kind_102 rfl rfl ?_
                refine st_goto (q := 109) dX7_kind_104 rfl ?_
                refine st_istore (q := 111) (L' := [_, _, _, _, _, _, _, _]) dX7_kind_109 rfl (Nat.le_of_ble_eq_true rfl) rfl ?_
                refine st_iinc (q := 114) (L' := [_, _, _, _, _, _, _, _]) dX7_kind_111 rfl rfl (nI_succ _).symm (Nat.le_of_ble_eq_true rfl) rfl ?_
                refine st_goto (q := 43) dX7_kind_114 rfl ?_
                first
                  | exact absurd c_83 c_99
                  | exact absurd c_99 c_83
                  | exact ih (i + 1) (by omega) w S f _ _ _ hM hA hG hF (hK.n hc9 hrv c_83)
                  | exact ih (i + 1) (by omega) w S f _ _ _ hM hA hG hF (hK.y (by omega) hc9 hrv c_83)
            · refine st_iload (q := 88) dX7_kind_86 rfl rfl ?_
              refine st_goto (q := 93) dX7_kind_88 rfl ?_
              refine st_istore (q := 95) (L' := [_, _, _, _, _, _, _, _]) dX7_kind_93 rfl (Nat.le_of_ble_eq_true rfl) rfl ?_
              refine st_iload (q := 97) dX7_kind_95 rfl rfl ?_
              refine st_iload (q := 99) dX7_kind_97 rfl rfl ?_
              refine st_icmp_ge (q := 102) (tgt := 107) dX7_kind_99 rfl rfl (fun c_99 => ?_) (fun c_99 => ?_)
              · refine st_iload (q := 109) dX7_kind_107 rfl rfl ?_
                refine st_istore (q := 111) (L' := [_, _, _, _, _, _, _, _]) dX7_kind_109 rfl (Nat.le_of_ble_eq_true rfl) rfl ?_
                refine st_iinc (q := 114) (L' := [_, _, _, _, _, _, _, _]) dX7_kind_111 rfl rfl (nI_succ _).symm (Nat.le_of_ble_eq_true rfl) rfl ?_
                refine st_goto (q := 43) dX7_kind_114 rfl ?_
                first
                  | exact absurd c_83 c_99
                  | exact absurd c_99 c_83
                  | exact ih (i + 1) (by omega) w S f _ _ _ hM hA hG hF (hK.n hc9 hrv c_83)
                  | exact ih (i + 1) (by omega) w S f _ _ _ hM hA hG hF (hK.y (by omega) hc9 hrv c_83)
              · refine st_iload (q := 104) dX7_kind_102 rfl rfl ?_
                refine st_goto (q := 109) dX7_kind_104 rfl ?_
                refine st_istore (q := 111) (L' := [_, _, _, _, _, _, _, _]) dX7_kind_109 rfl (Nat.le_of_ble_eq_true rfl) rfl ?_
                refine st_iinc (q := 114) (L' := [_, _, _, _, _, _, _, _]) dX7_kind_111 rfl rfl (nI_succ _).symm (Nat.le_of_ble_eq_true rfl) rfl ?_
                refine st_goto (q := 43) dX7_kind_114 rfl ?_
                first
                  | exact absurd c_83 c_99
                  | exact absurd c_99 c_83
                  | exact ih (i + 1) (by omega) w S f _ _ _ hM hA hG hF (hK.n hc9 hrv c_83)
                  | exact ih (i + 1) (by omega) w S f _ _ _ hM hA hG hF (hK.y (by omega) hc9 hrv c_83)
        exact lp 4 0 (by omega) w S f _ _ _ hM hA hG hF (Or.inl ⟨rfl, rfl, rfl⟩)
      · refine st_iconst (q := 31) dX7_kind_30 rfl ic_m1 ?_
        refine st_ireturn dX7_kind_31 rfl ?_
        first
          | exact ⟨by rw [kindS, if_neg (by rw [← hG.2.2.1, zI_0.mp c_5]; decide)], rfl, ⟨_, _, hM, hA⟩, hF⟩
          | exact ⟨by rw [kindS, if_pos (by rw [← hG.2.2.1]; exact zI_1.mp c_5), if_neg (by rw [zI_0.mp c_17]; decide)], rfl, ⟨_, _, hM, hA⟩, hF⟩
          | exact ⟨by rw [kindS, if_pos (by rw [← hG.2.2.1]; exact zI_1.mp c_5), if_pos (zI_1.mp c_17), if_neg (by rw [zI_0.mp c_27]; decide)], rfl, ⟨_, _, hM, hA⟩, hF⟩
set_option maxRecDepth 100000 in
set_option maxHeartbeats 4000000 in
theorem c_X7_swap {E : ev_E} {n : Nat} {w : ev_W} {S0 S : gT} {f0 f : Nat → Int32} {w0 : ev_W} (hF : Fr 70 82 w0 w) (hM : MR S f 70 n w) (hA : QA S0 S f0 f) {T : gT} {nh nt dd : Nat} (hG : GQ S f T nh nt dd) {x y : Int32} : Ct E mX7_swap [.ref 70, .int x, .int y] n w (ev_mr (swapS T nh nt dd x y) n w0 (QR S0 f0 n)) := by
  refine Ct.of 5 (by decide) (Nat.le_of_ble_eq_true rfl) rfl ?_
  have hd9 := hG.2.2.2
  have hN9 := hG.1.1.hnt
  have hc9 := hG.1.1.so.2
  refine st_iload_n (q := 1) dX7_swap_0 rfl rfl rfl ?_
  refine st_i2l (q := 2) dX7_swap_1 rfl ?_
  refine st_lconst (q := 3) dX7_swap_2 rfl lc_0 ?_
  refine st_ldc2 (q := 6) dX7_swap_3 rfl cn_X7_206 ?_
  refine sp_S3 (q := 9) (M' := mX7_in) dX7_swap_6 rfl ok_X7_in mk_X7_in ml_X7_46 ⟨Nat.le_of_ble_eq_true rfl, Nat.le_of_ble_eq_true rfl⟩ rfl (Nat.le_of_ble_eq_true rfl) ⟨rfl, rfl⟩ (c_X7_inI (a := 0) (c := 60) (by decide) (by decide)) ?_
  refine st_if_eq (q := 12) (tgt := 22) dX7_swap_9 rfl rfl (fun c_9 => ?_) (fun c_9 => ?_)
  · refine st_iconst (q := 23) dX7_swap_22 rfl ic_m1 ?_
    refine st_ireturn dX7_swap_23 rfl ?_
    first
      | exact ⟨by rw [swapS, if_neg (by rw [zI_0.mp c_9]; decide)], rfl, ⟨_, _, hM, hA⟩, hF⟩
      | exact ⟨by rw [swapS, if_pos (zI_1.mp c_9), if_neg (by rw [zI_0.mp c_19]; decide)], rfl, ⟨_, _, hM, hA⟩, hF⟩
  · refine st_iload_n (q := 13) dX7_swap_12 rfl rfl rfl ?_
    refine st_i2l (q := 14) dX7_swap_13 rfl ?_
    refine st_lconst (q := 15) dX7_swap_14 rfl lc_0 ?_
    refine st_lconst (q := 16) dX7_swap_15 rfl lc_1 ?_
    refine sp_S3 (q := 19) (M' := mX7_in) dX7_swap_16 rfl ok_X7_in mk_X7_in ml_X7_46 ⟨Nat.le_of_ble_eq_true rfl, Nat.le_of_ble_eq_true rfl⟩ rfl (Nat.le_of_ble_eq_true rfl) ⟨rfl, rfl⟩ (c_X7_inI (a := 0) (c := 1) (by decide) (by decide)) ?_
    refine st_if_ne (q := 22) (tgt := 24) dX7_swap_19 rfl rfl (fun c_19 => ?_) (fun c_19 => ?_)
    · obtain ⟨m, hm, rfl⟩ := inI_k (k := 60) (zI_1.mp c_9) (by decide)
      have h60 : inI (nI m) 0 60 = true := zI_1.mp c_9
      have hmc : (nI m).toNatClampNeg = m := nI_clamp (by omega)
      have h2 : inI y 0 1 = true := zI_1.mp c_19
      refine st_aload_n (q := 25) dX7_swap_24 rfl rfl rfl ?_
      refine st_iconst (q := 26) dX7_swap_25 rfl ic_0 ?_
      refine st_iload_n (q := 27) dX7_swap_26 rfl rfl rfl ?_
      refine sm_V2 (q := 30) (M' := mX7_daysGo) dX7_swap_27 rfl ok_X7_daysGo mk_X7_daysGo ml_X7_208 ⟨Nat.le_of_ble_eq_true rfl, Nat.le_of_ble_eq_true rfl⟩ rfl (Nat.le_of_ble_eq_true rfl) (g_rv hM rfl) ⟨rfl, rfl⟩ (c_goT hM hG (p := 0) (by decide) (by decide) hG.1 (m := m) (by omega)) ?_
      intro _ n w h9 _
      obtain ⟨S, f, rfl, rfl, hM, hA_, hR, h20, hF_⟩ := h9
      replace hG := hG.qa hA_
      replace hA := hA.tr hA_
      replace hF := Fr.tr hF hF_
      have hs0 : rg (dysT T dd nh nt m 17 0) 0 999 := hR.1.so.2
      refine st_istore_n (q := 31) (L' := [_, _, _, _, _, _, _, _]) dX7_swap_30 rfl rfl (Nat.le_of_ble_eq_true rfl) rfl ?_
      refine st_bipush (q := 33) dX7_swap_31 rfl bp_m4 ?_
      refine st_istore (q := 35) (L' := [_, _, _, _, _, _, _, _]) dX7_swap_33 rfl (Nat.le_of_ble_eq_true rfl) rfl ?_
      refine st_iconst (q := 36) dX7_swap_35 rfl ic_0 ?_
      refine st_istore (q := 38) (L' := [_, _, _, _, _, _, _, _]) dX7_swap_36 rfl (Nat.le_of_ble_eq_true rfl) rfl ?_
      have lp : ∀ (k i : Nat), i + k = nt → ∀ (w1 : ev_W) (S1 : gT) (f1 : Nat → Int32) (l6 l7 : Option Value), MR S1 f1 70 n w1 → QA S0 S1 f0 f1 → GQ S1 f1 T nh nt dd → Fr 70 82 w0 w1 → rg (swF T nh nt dd m i).1 0 999 → Ev E mX7_swap 38 [some (.ref 70), some (.int (nI m)), some (.int y), some (.int ((swF T nh nt dd m i).1 - T 17 0)), some (.int (swF T nh nt dd m i).2), some (.int (nI i)), l6, l7] [] n w1 (0, 0) (ev_mr (swapS T nh nt dd (nI m) y) n w0 (QR S0 f0 n)) := by
        clear hM hA hG hF hR h20
        intro k
        induction k with
        | zero =>
          intro i hi w S f l6 l7 hM hA hG hF hrs
          obtain rfl : nt = i := by omega
          refine st_iload (q := 40) dX7_swap_38 rfl rfl ?_
          refine st_aload_n (q := 41) dX7_swap_40 rfl rfl rfl ?_
          refine m_get (q := 44) dX7_swap_41 rfl fl_X7_139.g hM (by decide) rfl ?_
          refine st_icmp_ge (q := 47) (tgt := 219) dX7_swap_44 rfl rfl (fun c_44 => ?_) (fun c_44 => False.elim (c_44 (by rw [hG.2.2.1]; exact Int32.le_refl _)))
          refine st_iload (q := 221) dX7_swap_219 rfl rfl ?_
          refine st_bipush (q := 223) dX7_swap_221 rfl bp_m4 ?_
          refine st_icmp_eq (q := 226) (tgt := 230) dX7_swap_223 rfl rfl (fun c_223 => ?_) (fun c_223 => ?_)
          · refine st_iload (q := 232) dX7_swap_230 rfl rfl ?_
            refine st_goto (q := 236) dX7_swap_232 rfl ?_
            refine st_ireturn dX7_swap_236 rfl ?_
            refine ⟨?_, rfl, ⟨_, _, hM, hA⟩, hF⟩
            rw [swapS, if_pos h60, if_pos h2, hmc, boF]
            first
              | rw [if_pos c_223]
              | rw [if_neg c_223, if_pos c_227]
              | rw [if_neg c_223, if_neg c_227]
          · refine st_iload_n (q := 227) dX7_swap_226 rfl rfl rfl ?_
            refine st_if_ne (q := 230) (tgt := 235) dX7_swap_227 rfl rfl (fun c_227 => ?_) (fun c_227 => ?_)
            · refine st_iload_n (q := 236) dX7_swap_235 rfl rfl rfl ?_
              refine st_ireturn dX7_swap_236 rfl ?_
              refine ⟨?_, rfl, ⟨_, _, hM, hA⟩, hF⟩
              rw [swapS, if_pos h60, if_pos h2, hmc, boF]
              first
                | rw [if_pos c_223]
                | rw [if_neg c_223, if_pos c_227]
                | rw [if_neg c_223, if_neg c_227]
            · refine st_iload (q := 232) dX7_swap_230 rfl rfl ?_
              refine st_goto (q := 236) dX7_swap_232 rfl ?_
              refine st_ireturn dX7_swap_236 rfl ?_
              refine ⟨?_, rfl, ⟨_, _, hM, hA⟩, hF⟩
              rw [swapS, if_pos h60, if_pos h2, hmc, boF]
              first
                | rw [if_pos c_223]
                | rw [if_neg c_223, if_pos c_227]
                | rw [if_neg c_223, if_neg c_227]
        | succ k ih =>
          intro i hi w S f l6 l7 hM hA hG hF hrs
          refine st_iload (q := 40) dX7_swap_38 rfl rfl ?_
          refine st_aload_n (q := 41) dX7_swap_40 rfl rfl rfl ?_
          refine m_get (q := 44) dX7_swap_41 rfl fl_X7_139.g hM (by decide) rfl ?_
          refine st_icmp_ge (q := 47) (tgt := 219) dX7_swap_44 rfl rfl (fun c_44 => False.elim (absurd (by rw [← hG.2.2.1]; exact c_44) (nI_ge (a := i) (b := nt) (by omega) (by omega)))) (fun c_44 => ?_)
          refine st_iload (q := 49) dX7_swap_47 rfl rfl ?_
          refine st_iconst (q := 50) dX7_swap_49 rfl ic_1 ?_
          refine st_iadd (q := 51) dX7_swap_50 rfl ?_
          rw [← nI_succ]
          refine st_istore (q := 53) (L' := [_, _, _, _, _, _, _, _]) dX7_swap_51 rfl (Nat.le_of_ble_eq_true rfl) rfl ?_
          have inn : ∀ (k2 r : Nat), r + k2 = nt - (i + 1) → ∀ (w2 : ev_W) (S2 : gT) (f2 : Nat → Int32) (lq : Option Value), MR S2 f2 70 n w2 → QA S0 S2 f0 f2 → GQ S2 f2 T nh nt dd → Fr 70 82 w0 w2 → rg (swIn T nh nt dd m i (swF T nh nt dd m i) r).1 0 999 → Ev E mX7_swap 53 [some (.ref 70), some (.int (nI m)), some (.int y), some (.int ((swIn T nh nt dd m i (swF T nh nt dd m i) r).1 - T 17 0)), some (.int (swIn T nh nt dd m i (swF T nh nt dd m i) r).2), some (.int (nI i)), some (.int (nI (i + 1 + r))), lq] [] n w2 (0, 0) (ev_mr (swapS T nh nt dd (nI m) y) n w0 (QR S0 f0 n)) := by
            clear hM hA hG hF hrs
            intro k2
            induction k2 with
            | zero =>
              intro r hi2 w S f lq hM hA hG hF hrs
              obtain rfl : nt - (i + 1) = r := by omega
              refine st_iload (q := 55) dX7_swap_53 rfl rfl ?_
              refine st_aload_n (q := 56) dX7_swap_55 rfl rfl rfl ?_
              refine m_get (q := 59) dX7_swap_56 rfl fl_X7_139.g hM (by decide) rfl ?_
              refine st_icmp_ge (q := 62) (tgt := 213) dX7_swap_59 rfl rfl (fun c_59 => ?_) (fun c_59 => False.elim (c_59 (by rw [hG.2.2.1]; exact nI_le (by omega) (by omega))))
              refine st_iinc (q := 216) (L' := [_, _, _, _, _, _, _, _]) dX7_swap_213 rfl rfl (nI_succ _).symm (Nat.le_of_ble_eq_true rfl) rfl ?_
              refine st_goto (q := 38) dX7_swap_216 rfl ?_
              exact ih (i + 1) (by omega) w S f _ _ hM hA hG hF hrs
            | succ k2 ih2 =>
              intro r hi2 w S f lq hM hA hG hF hrs
              refine st_iload (q := 55) dX7_swap_53 rfl rfl ?_
              refine st_aload_n (q := 56) dX7_swap_55 rfl rfl rfl ?_
              refine m_get (q := 59) dX7_swap_56 rfl fl_X7_139.g hM (by decide) rfl ?_
              refine st_icmp_ge (q := 62) (tgt := 213) dX7_swap_59 rfl rfl (fun c_59 => False.elim (absurd (by rw [← hG.2.2.1]; exact c_59) (nI_ge (a := i + 1 + r) (b := nt) (by omega) (by omega)))) (fun c_59 => ?_)
              have gi : btI (T 12 0) (nI i) = decide (f (52 + i) = 2) := by have := hG.1.1.gone (k := i) (by omega); rw [Nat.zero_add] at this; exact this
              have gg : btI (T 12 0) (nI (i + 1 + r)) = decide (f (52 + (i + 1 + r)) = 2) := by have := hG.1.1.gone (k := i + 1 + r) (by omega); rw [Nat.zero_add] at this; exact this
              have ei : T 8 i = f (28 + i) := by have := (hG.1.1.is (k := i) (by omega)).2.1; rw [Nat.zero_add] at this; exact this
              have eg : T 8 (i + 1 + r) = f (28 + (i + 1 + r)) := by have := (hG.1.1.is (k := i + 1 + r) (by omega)).2.1; rw [Nat.zero_add] at this; exact this
              have hmc9 : mcT T i (i + 1 + r) = (!decide (f (52 + i) = 2) && (!decide (f (52 + (i + 1 + r)) = 2) && !decide (f (28 + i) = f (28 + (i + 1 + r))))) := by rw [mcT, gi, gg, ei, eg]
              refine st_aload_n (q := 63) dX7_swap_62 rfl rfl rfl ?_
              refine g_getA (q := 66) dX7_swap_63 rfl fl_X7_7.g hM rfl ?_
              refine st_bipush (q := 68) dX7_swap_66 rfl bp_52 ?_
              refine st_iload (q := 70) dX7_swap_68 rfl rfl ?_
              refine st_iadd (q := 71) dX7_swap_70 rfl ?_
              refine m_sld (q := 72) dX7_swap_71 rfl hM (by exact ix2 (a := 52) (b := i) (by omega) (by decide)) ?_
              refine st_iconst (q := 73) dX7_swap_72 rfl ic_2 ?_
              refine st_icmp_eq (q := 76) (tgt := 207) dX7_swap_73 rfl rfl (fun c_73 => ?_) (fun c_73 => ?_)
              · refine st_iinc (q := 210) (L' := [_, _, _, _, _, _, _, _]) dX7_swap_207 rfl rfl (nI_succ _).symm (Nat.le_of_ble_eq_true rfl) rfl ?_
                refine st_goto (q := 53) dX7_swap_210 rfl ?_
                have ih9 := fun lq => ih2 (r + 1) (by omega) w S f lq hM hA hG hF
                first
                  | exact absurd c_176 c_197
                  | exact absurd c_197 c_176
                  | (have e9 : swIn T nh nt dd m i (swF T nh nt dd m i) (r + 1) = (dysT (chT T i (i + 1 + r)) dd nh nt m 17 0, 10 * nI i + nI (i + 1 + r)) := mnF_y hmt (fun z => c_176 (hcm.mpr z))
                     rw [e9] at ih9; exact ih9 _ hrv)
                  | (have e9 : swIn T nh nt dd m i (swF T nh nt dd m i) (r + 1) = swIn T nh nt dd m i (swF T nh nt dd m i) r := mnF_k hmt (hcm.mp c_176)
                     rw [e9] at ih9; exact ih9 _ hrs)
                  | (have e9 : swIn T nh nt dd m i (swF T nh nt dd m i) (r + 1) = swIn T nh nt dd m i (swF T nh nt dd m i) r := mnF_n (show ¬ mcT T i (i + 1 + r) = true from by rw [hmc9, decide_eq_true c_73]; simp)
                     rw [e9] at ih9; exact ih9 _ hrs)
                  | (have e9 : swIn T nh nt dd m i (swF T nh nt dd m i) (r + 1) = swIn T nh nt dd m i (swF T nh nt dd m i) r := mnF_n (show ¬ mcT T i (i + 1 + r) = true from by rw [hmc9, decide_eq_true c_87]; simp)
                     rw [e9] at ih9; exact ih9 _ hrs)
                  | (have e9 : swIn T nh nt dd m i (swF T nh nt dd m i) (r + 1) = swIn T nh nt dd m i (swF T nh nt dd m i) r := mnF_n (show ¬ mcT T i (i + 1 + r) = true from by rw [hmc9, decide_eq_true c_110]; simp)
                     rw [e9] at ih9; exact ih9 _ hrs)
              · refine st_aload_n (q := 77) dX7_swap_76 rfl rfl rfl ?_
                refine g_getA (q := 80) dX7_swap_77 rfl fl_X7_7.g hM rfl ?_
                refine st_bipush (q := 82) dX7_swap_80 rfl bp_52 ?_
                refine st_iload (q := 84) dX7_swap_82 rfl rfl ?_
                refine st_iadd (q := 85) dX7_swap_84 rfl ?_
                refine m_sld (q := 86) dX7_swap_85 rfl hM (by exact ix2 (a := 52) (b := i + 1 + r) (by omega) (by decide)) ?_
                refine st_iconst (q := 87) dX7_swap_86 rfl ic_2 ?_
                refine st_icmp_eq (q := 90) (tgt := 207) dX7_swap_87 rfl rfl (fun c_87 => ?_) (fun c_87 => ?_)
                · refine st_iinc (q := 210) (L' := [_, _, _, _, _, _, _, _]) dX7_swap_207 rfl rfl (nI_succ _).symm (Nat.le_of_ble_eq_true rfl) rfl ?_
                  refine st_goto (q := 53) dX7_swap_210 rfl ?_
                  have ih9 := fun lq => ih2 (r + 1) (by omega) w S f lq hM hA hG hF
                  first
                    | exact absurd c_176 c_197
                    | exact absurd c_197 c_176
                    | (have e9 : swIn T nh nt dd m i (swF T nh nt dd m i) (r + 1) = (dysT (chT T i (i + 1 + r)) dd nh nt m 17 0, 10 * nI i + nI (i + 1 + r)) := mnF_y hmt (fun z => c_176 (hcm.mpr z))
                       rw [e9] at ih9; exact ih9 _ hrv)
                    | (have e9 : swIn T nh nt dd m i (swF T nh nt dd m i) (r + 1) = swIn T nh nt dd m i (swF T nh nt dd m i) r := mnF_k hmt (hcm.mp c_176)
                       rw [e9] at ih9; exact ih9 _ hrs)
                    | (have e9 : swIn T nh nt dd m i (swF T nh nt dd m i) (r + 1) = swIn T nh nt dd m i (swF T nh nt dd m i) r := mnF_n (show ¬ mcT T i (i + 1 + r) = true from by rw [hmc9, decide_eq_true c_73]; simp)
                       rw [e9] at ih9; exact ih9 _ hrs)
                    | (have e9 : swIn T nh nt dd m i (swF T nh nt dd m i) (r + 1) = swIn T nh nt dd m i (swF T nh nt dd m i) r := mnF_n (show ¬ mcT T i (i + 1 + r) = true from by rw [hmc9, decide_eq_true c_87]; simp)
                       rw [e9] at ih9; exact ih9 _ hrs)
                    | (have e9 : swIn T nh nt dd m i (swF T nh nt dd m i) (r + 1) = swIn T nh nt dd m i (swF T nh nt dd m i) r := mnF_n (show ¬ mcT T i (i + 1 + r) = true from by rw [hmc9, decide_eq_true c_110]; simp)
                       rw [e9] at ih9; exact ih9 _ hrs)
                · refine st_aload_n (q := 91) dX7_swap_90 rfl rfl rfl ?_
                  refine g_getA (q := 94) dX7_swap_91 rfl fl_X7_7.g hM rfl ?_
                  refine st_bipush (q := 96) dX7_swap_94 rfl bp_28 ?_
                  refine st_iload (q := 98) dX7_swap_96 rfl rfl ?_
                  refine st_iadd (q := 99) dX7_swap_98 rfl ?_
                  refine m_sld (q := 100) dX7_swap_99 rfl hM (by exact ix2 (a := 28) (b := i) (by omega) (by decide)) ?_
                  refine st_aload_n (q := 101) dX7_swap_100 rfl rfl rfl ?_
                  refine g_getA (q := 104) dX7_swap_101 rfl fl_X7_7.g hM rfl ?_
                  refine st_bipush (q := 106) dX7_swap_104 rfl bp_28 ?_
                  refine st_iload (q := 108) dX7_swap_106 rfl rfl ?_
                  refine st_iadd (q := 109) dX7_swap_108 rfl ?_
                  refine m_sld (q := 110) dX7_swap_109 rfl hM (by exact ix2 (a := 28) (b := i + 1 + r) (by omega) (by decide)) ?_
                  refine st_icmp_eq (q := 113) (tgt := 207) dX7_swap_110 rfl rfl (fun c_110 => ?_) (fun c_110 => ?_)
                  · refine st_iinc (q := 210) (L' := [_, _, _, _, _, _, _, _]) dX7_swap_207 rfl rfl (nI_succ _).symm (Nat.le_of_ble_eq_true rfl) rfl ?_
                    refine st_goto (q := 53) dX7_swap_210 rfl ?_
                    have ih9 := fun lq => ih2 (r + 1) (by omega) w S f lq hM hA hG hF
                    first
                      | exact absurd c_176 c_197
                      | exact absurd c_197 c_176
                      | (have e9 : swIn T nh nt dd m i (swF T nh nt dd m i) (r + 1) = (dysT (chT T i (i + 1 + r)) dd nh nt m 17 0, 10 * nI i + nI (i + 1 + r)) := mnF_y hmt (fun z => c_176 (hcm.mpr z))
                         rw [e9] at ih9; exact ih9 _ hrv)
                      | (have e9 : swIn T nh nt dd m i (swF T nh nt dd m i) (r + 1) = swIn T nh nt dd m i (swF T nh nt dd m i) r := mnF_k hmt (hcm.mp c_176)
                         rw [e9] at ih9; exact ih9 _ hrs)
                      | (have e9 : swIn T nh nt dd m i (swF T nh nt dd m i) (r + 1) = swIn T nh nt dd m i (swF T nh nt dd m i) r := mnF_n (show ¬ mcT T i (i + 1 + r) = true from by rw [hmc9, decide_eq_true c_73]; simp)
                         rw [e9] at ih9; exact ih9 _ hrs)
                      | (have e9 : swIn T nh nt dd m i (swF T nh nt dd m i) (r + 1) = swIn T nh nt dd m i (swF T nh nt dd m i) r := mnF_n (show ¬ mcT T i (i + 1 + r) = true from by rw [hmc9, decide_eq_true c_87]; simp)
                         rw [e9] at ih9; exact ih9 _ hrs)
                      | (have e9 : swIn T nh nt dd m i (swF T nh nt dd m i) (r + 1) = swIn T nh nt dd m i (swF T nh nt dd m i) r := mnF_n (show ¬ mcT T i (i + 1 + r) = true from by rw [hmc9, decide_eq_true c_110]; simp)
                         rw [e9] at ih9; exact ih9 _ hrs)
                  · have hmt : mcT T i (i + 1 + r) = true := by rw [hmc9, decide_eq_false c_73, decide_eq_false c_87, decide_eq_false c_110]; rfl
                    clear hmc9 gi gg ei eg
                    refine st_aload_n (q := 114) dX7_swap_113 rfl rfl rfl ?_
                    refine st_iconst (q := 115) dX7_swap_114 rfl ic_0 ?_
                    refine st_sipush (q := 118) dX7_swap_115 rfl sp_355 ?_
                    refine sm_V2 (q := 121) (M' := mX7_copies) dX7_swap_118 rfl ok_X7_copies mk_X7_copies ml_X7_200 ⟨Nat.le_of_ble_eq_true rfl, Nat.le_of_ble_eq_true rfl⟩ rfl (Nat.le_of_ble_eq_true rfl) (g_rv hM rfl) ⟨rfl, rfl⟩ (c_copyT hM hG (c := 355) (by decide) (by decide)) ?_
                    intro _ n w h9 _
                    obtain ⟨f, rfl, rfl, hM, hA_, hR, hF_⟩ := h9
                    replace hG := hG.qa hA_
                    replace hA := hA.tr hA_
                    replace hF := Fr.tr hF hF_
                    refine st_aload_n (q := 122) dX7_swap_121 rfl rfl rfl ?_
                    refine g_getA (q := 125) dX7_swap_122 rfl fl_X7_7.g hM rfl ?_
                    refine st_sipush (q := 128) dX7_swap_125 rfl sp_383 ?_
                    refine st_iload (q := 130) dX7_swap_128 rfl rfl ?_
                    refine st_iadd (q := 131) dX7_swap_130 rfl ?_
                    refine st_aload_n (q := 132) dX7_swap_131 rfl rfl rfl ?_
                    refine g_getA (q := 135) dX7_swap_132 rfl fl_X7_7.g hM rfl ?_
                    refine st_bipush (q := 137) dX7_swap_135 rfl bp_28 ?_
                    refine st_iload (q := 139) dX7_swap_137 rfl rfl ?_
                    refine st_iadd (q := 140) dX7_swap_139 rfl ?_
                    refine m_sld (q := 141) dX7_swap_140 rfl hM (by exact ix2 (a := 28) (b := i + 1 + r) (by omega) (by decide)) ?_
                    have eg : f (28 + (i + 1 + r)) = T 8 (i + 1 + r) := by have := (hG.1.1.is (k := i + 1 + r) (by omega)).2.1; rw [Nat.zero_add] at this; exact this.symm
                    rw [eg]
                    refine m_sst (q := 142) dX7_swap_141 rfl hM (by exact ix2 (a := 383) (b := i) (by omega) (by decide)) (fun w hM hF_ => ?_)
                    replace hF := Fr.tr hF hF_
                    refine st_aload_n (q := 143) dX7_swap_142 rfl rfl rfl ?_
                    refine g_getA (q := 146) dX7_swap_143 rfl fl_X7_7.g hM rfl ?_
                    refine st_sipush (q := 149) dX7_swap_146 rfl sp_383 ?_
                    refine st_iload (q := 151) dX7_swap_149 rfl rfl ?_
                    refine st_iadd (q := 152) dX7_swap_151 rfl ?_
                    refine st_aload_n (q := 153) dX7_swap_152 rfl rfl rfl ?_
                    refine g_getA (q := 156) dX7_swap_153 rfl fl_X7_7.g hM rfl ?_
                    refine st_bipush (q := 158) dX7_swap_156 rfl bp_28 ?_
                    refine st_iload (q := 160) dX7_swap_158 rfl rfl ?_
                    refine st_iadd (q := 161) dX7_swap_160 rfl ?_
                    refine m_sld (q := 162) dX7_swap_161 rfl hM (by exact ix2 (a := 28) (b := i) (by omega) (by decide)) ?_
                    have ei : upd f (383 + i) (T 8 (i + 1 + r)) (28 + i) = T 8 i := by have := (hG.1.1.is (k := i) (by omega)).2.1; rw [Nat.zero_add] at this; rw [pk_un (by omega)]; exact this.symm
                    rw [ei]
                    refine m_sst (q := 163) dX7_swap_162 rfl hM (by exact ix2 (a := 383) (b := i + 1 + r) (by omega) (by decide)) (fun w hM hF_ => ?_)
                    replace hF := Fr.tr hF hF_
                    have xi := (hG.1.1.is (k := i) (by omega)).2.2.2.2.2.1
                    have xg := (hG.1.1.is (k := i + 1 + r) (by omega)).2.2.2.2.2.1
                    replace hR := (hR.set8 (k := i) (by omega) xg).set8 (k := i + 1 + r) (by omega) xi
                    have hA_ : QA S S f (upd (upd f (383 + i) (T 8 (i + 1 + r))) (383 + (i + 1 + r)) (T 8 i)) := (QA.up (by omega)).tr (QA.up (by omega))
                    replace hG := hG.qa hA_
                    replace hA := hA.tr hA_
                    refine st_aload_n (q := 164) dX7_swap_163 rfl rfl rfl ?_
                    refine st_sipush (q := 167) dX7_swap_164 rfl sp_355 ?_
                    refine st_iload_n (q := 168) dX7_swap_167 rfl rfl rfl ?_
                    refine sm_V2 (q := 171) (M' := mX7_daysGo) dX7_swap_168 rfl ok_X7_daysGo mk_X7_daysGo ml_X7_208 ⟨Nat.le_of_ble_eq_true rfl, Nat.le_of_ble_eq_true rfl⟩ rfl (Nat.le_of_ble_eq_true rfl) (g_rv hM rfl) ⟨rfl, rfl⟩ (c_goT hM hG (p := 355) (by decide) (by decide) hR (m := m) (by omega)) ?_
                    intro _ n w h9 _
                    obtain ⟨S, f, rfl, rfl, hM, hA_, hR, h20, hF_⟩ := h9
                    replace hG := hG.qa hA_
                    replace hA := hA.tr hA_
                    replace hF := Fr.tr hF hF_
                    have hrv : rg (dysT (chT T i (i + 1 + r)) dd nh nt m 17 0) 0 999 := hR.1.so.2
                    have hcm := sub_le hrs hrv hc9
                    refine st_istore (q := 173) (L' := [_, _, _, _, _, _, _, _]) dX7_swap_171 rfl (Nat.le_of_ble_eq_true rfl) rfl ?_
                    refine st_iload (q := 175) dX7_swap_173 rfl rfl ?_
                    refine st_iload_n (q := 176) dX7_swap_175 rfl rfl rfl ?_
                    refine st_icmp_ge (q := 179) (tgt := 190) dX7_swap_176 rfl rfl (fun c_176 => ?_) (fun c_176 => ?_)
                    · refine st_iload (q := 192) dX7_swap_190 rfl rfl ?_
                      refine st_istore (q := 194) (L' := [_, _, _, _, _, _, _, _]) dX7_swap_192 rfl (Nat.le_of_ble_eq_true rfl) rfl ?_
                      refine st_iload (q := 196) dX7_swap_194 rfl rfl ?_
                      refine st_iload_n (q := 197) dX7_swap_196 rfl rfl rfl ?_
                      refine st_icmp_ge (q := 200) (tgt := 205) dX7_swap_197 rfl rfl (fun c_197 => ?_) (fun c_197 => ?_)
                      · refine st_iload_n (q := 206) dX7_swap_205 rfl rfl rfl ?_
                        refine st_istore_n (q := 207) (L' := [_, _, _, _, _, _, _, _]) dX7_swap_206 rfl rfl (Nat.le_of_ble_eq_true rfl) rfl ?_
                        refine st_iinc (q := 210) (L' := [_, _, _, _, _, _, _, _]) dX7_swap_207 rfl rfl (nI_succ _).symm (Nat.le_of_ble_eq_true rfl) rfl ?_
                        refine st_goto (q := 53) dX7_swap_210 rfl ?_
                        have ih9 := fun lq => ih2 (r + 1) (by omega) w S f lq hM hA hG hF
                        first
                          | exact absurd c_176 c_197
                          | exact absurd c_197 c_176
                          | (have e9 : swIn T nh nt dd m i (swF T nh nt dd m i) (r + 1) = (dysT (chT T i (i + 1 + r)) dd nh nt m 17 0, 10 * nI i + nI (i + 1 + r)) := mnF_y hmt (fun z => c_176 (hcm.mpr z))
                             rw [e9] at ih9; exact ih9 _ hrv)
                          | (have e9 : swIn T nh nt dd m i (swF T nh nt dd m i) (r + 1) = swIn T nh nt dd m i (swF T nh nt dd m i) r := mnF_k hmt (hcm.mp c_176)
                             rw [e9] at ih9; exact ih9 _ hrs)
                          | (have e9 : swIn T nh nt dd m i (swF T nh nt dd m i) (r + 1) = swIn T nh nt dd m i (swF T nh nt dd m i) r := mnF_n (show ¬ mcT T i (i + 1 + r) = true from by rw [hmc9, decide_eq_true c_73]; simp)
                             rw [e9] at ih9; exact ih9 _ hrs)
                          | (have e9 : swIn T nh nt dd m i (swF T nh nt dd m i) (r + 1) = swIn T nh nt dd m i (swF T nh nt dd m i) r := mnF_n (show ¬ mcT T i (i + 1 + r) = true from by rw [hmc9, decide_eq_true c_87]; simp)
                             rw [e9] at ih9; exact ih9 _ hrs)
                          | (have e9 : swIn T nh nt dd m i (swF T nh nt dd m i) (r + 1) = swIn T nh nt dd m i (swF T nh nt dd m i) r := mnF_n (show ¬ mcT T i (i + 1 + r) = true from by rw [hmc9, decide_eq_true c_110]; simp)
                             rw [e9] at ih9; exact ih9 _ hrs)
                      · refine st_iload (q := 202) dX7_swap_200 rfl rfl ?_
                        refine st_goto (q := 206) dX7_swap_202 rfl ?_
                        refine st_istore_n (q := 207) (L' := [_, _, _, _, _, _, _, _]) dX7_swap_206 rfl rfl (Nat.le_of_ble_eq_true rfl) rfl ?_
                        refine st_iinc (q := 210) (L' := [_, _, _, _, _, _, _, _]) dX7_swap_207 rfl rfl (nI_succ _).symm (Nat.le_of_ble_eq_true rfl) rfl ?_
                        refine st_goto (q := 53) dX7_swap_210 rfl ?_
                        have ih9 := fun lq => ih2 (r + 1) (by omega) w S f lq hM hA hG hF
                        first
                          | exact absurd c_176 c_197
                          | exact absurd c_197 c_176
                          | (have e9 : swIn T nh nt dd m i (swF T nh nt dd m i) (r + 1) = (dysT (chT T i (i + 1 + r)) dd nh nt m 17 0, 10 * nI i + nI (i + 1 + r)) := mnF_y hmt (fun z => c_176 (hcm.mpr z))
                             rw [e9] at ih9; exact ih9 _ hrv)
                          | (have e9 : swIn T nh nt dd m i (swF T nh nt dd m i) (r + 1) = swIn T nh nt dd m i (swF T nh nt dd m i) r := mnF_k hmt (hcm.mp c_176)
                             rw [e9] at ih9; exact ih9 _ hrs)
                          | (have e9 : swIn T nh nt dd m i (swF T nh nt dd m i) (r + 1) = swIn T nh nt dd m i (swF T nh nt dd m i) r := mnF_n (show ¬ mcT T i (i + 1 + r) = true from by rw [hmc9, decide_eq_true c_73]; simp)
                             rw [e9] at ih9; exact ih9 _ hrs)
                          | (have e9 : swIn T nh nt dd m i (swF T nh nt dd m i) (r + 1) = swIn T nh nt dd m i (swF T nh nt dd m i) r := mnF_n (show ¬ mcT T i (i + 1 + r) = true from by rw [hmc9, decide_eq_true c_87]; simp)
                             rw [e9] at ih9; exact ih9 _ hrs)
                          | (have e9 : swIn T nh nt dd m i (swF T nh nt dd m i) (r + 1) = swIn T nh nt dd m i (swF T nh nt dd m i) r := mnF_n (show ¬ mcT T i (i + 1 + r) = true from by rw [hmc9, decide_eq_true c_110]; simp)
                             rw [e9] at ih9; exact ih9 _ hrs)
                    · refine st_bipush (q := 181) dX7_swap_179 rfl bp_10 ?_
                      refine st_iload (q := 183) dX7_swap_181 rfl rfl ?_
                      refine st_imul (q := 184) dX7_swap_183 rfl ?_
                      refine st_iload (q := 186) dX7_swap_184 rfl rfl ?_
                      refine st_iadd (q := 187) dX7_swap_186 rfl ?_
                      refine st_goto (q := 192) dX7_swap_187 rfl ?_
                      refine st_istore (q := 194) (L' := [_, _, _, _, _, _, _, _]) dX7_swap_192 rfl (Nat.le_of_ble_eq_true rfl) rfl ?_
                      refine st_iload (q := 196) dX7_swap_194 rfl rfl ?_
                      refine st_iload_n (q := 197) dX7_swap_196 rfl rfl rfl ?_
                      refine st_icmp_ge (q := 200) (tgt := 205) dX7_swap_197 rfl rfl (fun c_197 => ?_) (fun c_197 => ?_)
                      · refine st_iload_n (q := 206) dX7_swap_205 rfl rfl rfl ?_
                        refine st_istore_n (q := 207) (L' := [_, _, _, _, _, _, _, _]) dX7_swap_206 rfl rfl (Nat.le_of_ble_eq_true rfl) rfl ?_
                        refine st_iinc (q := 210) (L' := [_, _, _, _, _, _, _, _]) dX7_swap_207 rfl rfl (nI_succ _).symm (Nat.le_of_ble_eq_true rfl) rfl ?_
                        refine st_goto (q := 53) dX7_swap_210 rfl ?_
                        have ih9 := fun lq => ih2 (r + 1) (by omega) w S f lq hM hA hG hF
                        first
                          | exact absurd c_176 c_197
                          | exact absurd c_197 c_176
                          | (have e9 : swIn T nh nt dd m i (swF T nh nt dd m i) (r + 1) = (dysT (chT T i (i + 1 + r)) dd nh nt m 17 0, 10 * nI i + nI (i + 1 + r)) := mnF_y hmt (fun z => c_176 (hcm.mpr z))
                             rw [e9] at ih9; exact ih9 _ hrv)
                          | (have e9 : swIn T nh nt dd m i (swF T nh nt dd m i) (r + 1) = swIn T nh nt dd m i (swF T nh nt dd m i) r := mnF_k hmt (hcm.mp c_176)
                             rw [e9] at ih9; exact ih9 _ hrs)
                          | (have e9 : swIn T nh nt dd m i (swF T nh nt dd m i) (r + 1) = swIn T nh nt dd m i (swF T nh nt dd m i) r := mnF_n (show ¬ mcT T i (i + 1 + r) = true from by rw [hmc9, decide_eq_true c_73]; simp)
                             rw [e9] at ih9; exact ih9 _ hrs)
                          | (have e9 : swIn T nh nt dd m i (swF T nh nt dd m i) (r + 1) = swIn T nh nt dd m i (swF T nh nt dd m i) r := mnF_n (show ¬ mcT T i (i + 1 + r) = true from by rw [hmc9, decide_eq_true c_87]; simp)
                             rw [e9] at ih9; exact ih9 _ hrs)
                          | (have e9 : swIn T nh nt dd m i (swF T nh nt dd m i) (r + 1) = swIn T nh nt dd m i (swF T nh nt dd m i) r := mnF_n (show ¬ mcT T i (i + 1 + r) = true from by rw [hmc9, decide_eq_true c_110]; simp)
                             rw [e9] at ih9; exact ih9 _ hrs)
                      · refine st_iload (q := 202) dX7_swap_200 rfl rfl ?_
                        refine st_goto (q := 206) dX7_swap_202 rfl ?_
                        refine st_istore_n (q := 207) (L' := [_, _, _, _, _, _, _, _]) dX7_swap_206 rfl rfl (Nat.le_of_ble_eq_true rfl) rfl ?_
                        refine st_iinc (q := 210) (L' := [_, _, _, _, _, _, _, _]) dX7_swap_207 rfl rfl (nI_succ _).symm (Nat.le_of_ble_eq_true rfl) rfl ?_
                        refine st_goto (q := 53) dX7_swap_210 rfl ?_
                        have ih9 := fun lq => ih2 (r + 1) (by omega) w S f lq hM hA hG hF
                        first
                          | exact absurd c_176 c_197
                          | exact absurd c_197 c_176
                          | (have e9 : swIn T nh nt dd m i (swF T nh nt dd m i) (r + 1) = (dysT (chT T i (i + 1 + r)) dd nh nt m 17 0, 10 * nI i + nI (i + 1 + r)) := mnF_y hmt (fun z => c_176 (hcm.mpr z))
                             rw [e9] at ih9; exact ih9 _ hrv)
                          | (have e9 : swIn T nh nt dd m i (swF T nh nt dd m i) (r + 1) = swIn T nh nt dd m i (swF T nh nt dd m i) r := mnF_k hmt (hcm.mp c_176)
                             rw [e9] at ih9; exact ih9 _ hrs)
                          | (have e9 : swIn T nh nt dd m i (swF T nh nt dd m i) (r + 1) = swIn T nh nt dd m i (swF T nh nt dd m i) r := mnF_n (show ¬ mcT T i (i + 1 + r) = true from by rw [hmc9, decide_eq_true c_73]; simp)
                             rw [e9] at ih9; exact ih9 _ hrs)
                          | (have e9 : swIn T nh nt dd m i (swF T nh nt dd m i) (r + 1) = swIn T nh nt dd m i (swF T nh nt dd m i) r := mnF_n (show ¬ mcT T i (i + 1 + r) = true from by rw [hmc9, decide_eq_true c_87]; simp)
                             rw [e9] at ih9; exact ih9 _ hrs)
                          | (have e9 : swIn T nh nt dd m i (swF T nh nt dd m i) (r + 1) = swIn T nh nt dd m i (swF T nh nt dd m i) r := mnF_n (show ¬ mcT T i (i + 1 + r) = true from by rw [hmc9, decide_eq_true c_110]; simp)
                             rw [e9] at ih9; exact ih9 _ hrs)
          exact inn (nt - (i + 1)) 0 (by omega) w S f _ hM hA hG hF hrs
      exact lp nt 0 (by omega) w S f _ _ hM hA hG hF hs0
    · refine st_iconst (q := 23) dX7_swap_22 rfl ic_m1 ?_
      refine st_ireturn dX7_swap_23 rfl ?_
      first
        | exact ⟨by rw [swapS, if_neg (by rw [zI_0.mp c_9]; decide)], rfl, ⟨_, _, hM, hA⟩, hF⟩
        | exact ⟨by rw [swapS, if_pos (zI_1.mp c_9), if_neg (by rw [zI_0.mp c_19]; decide)], rfl, ⟨_, _, hM, hA⟩, hF⟩
