set_option maxRecDepth 100000 in
set_option maxHeartbeats 4000000 in
theorem c_X7_runs {E : ev_E} {n : Nat} {w : ev_W} {S0 S : gT} {f0 f : Nat → Int32} {w0 : ev_W} (hF : Fr 70 82 w0 w) (hM : MR S f 70 n w) (hA : QA S0 S f0 f) {T : gT} {nh nt dd : Nat} (hG : GQ S f T nh nt dd) {x y : Int32} : Ct E mX7_runs [.ref 70, .int x, .int y] n w (ev_mr (runsS T nh nt dd x y) n w0 (QR S0 f0 n)) := by
  refine Ct.of 1 (by decide) (Nat.le_of_ble_eq_true rfl) rfl ?_
  have hd9 := hG.2.2.2
  refine st_iload_n (q := 1) dX7_runs_0 rfl rfl rfl ?_
  refine st_i2l (q := 2) dX7_runs_1 rfl ?_
  refine st_lconst (q := 3) dX7_runs_2 rfl lc_0 ?_
  refine st_ldc2 (q := 6) dX7_runs_3 rfl cn_X7_206 ?_
  refine sp_S3 (q := 9) (M' := mX7_in) dX7_runs_6 rfl ok_X7_in mk_X7_in ml_X7_46 ⟨Nat.le_of_ble_eq_true rfl, Nat.le_of_ble_eq_true rfl⟩ rfl (Nat.le_of_ble_eq_true rfl) ⟨rfl, rfl⟩ (c_X7_inI (a := 0) (c := 60) (by decide) (by decide)) ?_
  refine st_if_eq (q := 12) (tgt := 24) dX7_runs_9 rfl rfl (fun c_9 => ?_) (fun c_9 => ?_)
  · refine st_iconst (q := 25) dX7_runs_24 rfl ic_m1 ?_
    refine st_ireturn dX7_runs_25 rfl ?_
    first
      | exact ⟨by rw [runsS, if_neg (by rw [zI_0.mp c_9]; decide)], rfl, ⟨_, _, hM, hA⟩, hF⟩
      | exact ⟨by rw [runsS, if_pos (zI_1.mp c_9), if_neg (by rw [zI_0.mp c_21]; decide)], rfl, ⟨_, _, hM, hA⟩, hF⟩
  · refine st_iload_n (q := 13) dX7_runs_12 rfl rfl rfl ?_
    refine st_i2l (q := 14) dX7_runs_13 rfl ?_
    refine st_lconst (q := 15) dX7_runs_14 rfl lc_0 ?_
    refine st_ldc2 (q := 18) dX7_runs_15 rfl cn_X7_179 ?_
    refine sp_S3 (q := 21) (M' := mX7_in) dX7_runs_18 rfl ok_X7_in mk_X7_in ml_X7_46 ⟨Nat.le_of_ble_eq_true rfl, Nat.le_of_ble_eq_true rfl⟩ rfl (Nat.le_of_ble_eq_true rfl) ⟨rfl, rfl⟩ (c_X7_inI (a := 0) (c := 3) (by decide) (by decide)) ?_
    refine st_if_ne (q := 24) (tgt := 26) dX7_runs_21 rfl rfl (fun c_21 => ?_) (fun c_21 => ?_)
    · obtain ⟨m, hm, rfl⟩ := inI_k (k := 60) (zI_1.mp c_9) (by decide)
      have h60 : inI (nI m) 0 60 = true := zI_1.mp c_9
      have hmc : (nI m).toNatClampNeg = m := nI_clamp (by omega)
      have h2 : inI y 0 3 = true := zI_1.mp c_21
      refine st_aload_n (q := 27) dX7_runs_26 rfl rfl rfl ?_
      refine st_iconst (q := 28) dX7_runs_27 rfl ic_0 ?_
      refine st_iload_n (q := 29) dX7_runs_28 rfl rfl rfl ?_
      refine sm_V2 (q := 32) (M' := mX7_daysGo) dX7_runs_29 rfl ok_X7_daysGo mk_X7_daysGo ml_X7_208 ⟨Nat.le_of_ble_eq_true rfl, Nat.le_of_ble_eq_true rfl⟩ rfl (Nat.le_of_ble_eq_true rfl) (g_rv hM rfl) ⟨rfl, rfl⟩ (c_goT hM hG (p := 0) (by decide) (by decide) hG.1 (m := m) (by omega)) ?_
      intro _ n w h9 _
      obtain ⟨S, f, rfl, rfl, hM, hA_, hR, h20, hF_⟩ := h9
      replace hG := hG.qa hA_
      replace hA := hA.tr hA_
      replace hF := Fr.tr hF hF_
      refine st_istore_n (q := 33) (L' := [_, _, _, _]) dX7_runs_32 rfl rfl (Nat.le_of_ble_eq_true rfl) rfl ?_
      refine st_iload_n (q := 34) dX7_runs_33 rfl rfl rfl ?_
      refine st_if_ne (q := 37) (tgt := 41) dX7_runs_34 rfl rfl (fun c_34 => ?_) (fun c_34 => ?_)
      · refine st_iload_n (q := 42) dX7_runs_41 rfl rfl rfl ?_
        refine st_iconst (q := 43) dX7_runs_42 rfl ic_1 ?_
        refine st_icmp_ne (q := 46) (tgt := 57) dX7_runs_43 rfl rfl (fun c_43 => ?_) (fun c_43 => ?_)
        · refine st_iload_n (q := 58) dX7_runs_57 rfl rfl rfl ?_
          refine st_iconst (q := 59) dX7_runs_58 rfl ic_2 ?_
          refine st_icmp_ne (q := 62) (tgt := 72) dX7_runs_59 rfl rfl (fun c_59 => ?_) (fun c_59 => ?_)
          · refine st_aload_n (q := 73) dX7_runs_72 rfl rfl rfl ?_
            refine m_get (q := 76) dX7_runs_73 rfl fl_X7_203.g hM (by decide) rfl ?_
            refine st_ireturn dX7_runs_76 rfl ?_
            refine ⟨?_, rfl, ⟨_, _, hM, hA⟩, hF⟩
            rw [runsS, if_pos h60, if_pos h2, hmc]
            first
              | rw [if_pos c_34]
              | rw [if_neg c_34, if_pos c_43, hR.1.th2]
              | rw [if_neg c_34, if_neg c_43, if_pos c_59, hR.1.af]
              | rw [if_neg c_34, if_neg c_43, if_neg c_59, h20]
          · refine st_aload_n (q := 63) dX7_runs_62 rfl rfl rfl ?_
            refine st_sipush (q := 66) dX7_runs_63 rfl sp_284 ?_
            refine sp_V1 (q := 69) (M' := mX7_afloatOn) dX7_runs_66 rfl ok_X7_afloatOn mk_X7_afloatOn ml_X7_161 ⟨Nat.le_of_ble_eq_true rfl, Nat.le_of_ble_eq_true rfl⟩ rfl (Nat.le_of_ble_eq_true rfl) (g_rv hM rfl) ⟨rfl, rfl⟩ (c_X7_afloatOn hM (p := 284) (by decide) hG.2.1 hG.1.1.hnh) ?_
            refine st_goto (q := 76) dX7_runs_69 rfl ?_
            refine st_ireturn dX7_runs_76 rfl ?_
            refine ⟨?_, rfl, ⟨_, _, hM, hA⟩, hF⟩
            rw [runsS, if_pos h60, if_pos h2, hmc]
            first
              | rw [if_pos c_34]
              | rw [if_neg c_34, if_pos c_43, hR.1.th2]
              | rw [if_neg c_34, if_neg c_43, if_pos c_59, hR.1.af]
              | rw [if_neg c_34, if_neg c_43, if_neg c_59, h20]
        · refine st_aload_n (q := 47) dX7_runs_46 rfl rfl rfl ?_
          refine st_sipush (q := 50) dX7_runs_47 rfl sp_284 ?_
          refine st_iconst (q := 51) dX7_runs_50 rfl ic_2 ?_
          refine sp_V2 (q := 54) (M' := mX7_thoseOn) dX7_runs_51 rfl ok_X7_thoseOn mk_X7_thoseOn ml_X7_164 ⟨Nat.le_of_ble_eq_true rfl, Nat.le_of_ble_eq_true rfl⟩ rfl (Nat.le_of_ble_eq_true rfl) (g_rv hM rfl) ⟨rfl, rfl⟩ (c_X7_thoseOn hM (p := 284) (by decide) hG.2.2.1 hG.1.1.hnt) ?_
          refine st_goto (q := 76) dX7_runs_54 rfl ?_
          refine st_ireturn dX7_runs_76 rfl ?_
          refine ⟨?_, rfl, ⟨_, _, hM, hA⟩, hF⟩
          rw [runsS, if_pos h60, if_pos h2, hmc]
          first
            | rw [if_pos c_34]
            | rw [if_neg c_34, if_pos c_43, hR.1.th2]
            | rw [if_neg c_34, if_neg c_43, if_pos c_59, hR.1.af]
            | rw [if_neg c_34, if_neg c_43, if_neg c_59, h20]
      · refine st_iload_n (q := 38) dX7_runs_37 rfl rfl rfl ?_
        refine st_goto (q := 76) dX7_runs_38 rfl ?_
        refine st_ireturn dX7_runs_76 rfl ?_
        refine ⟨?_, rfl, ⟨_, _, hM, hA⟩, hF⟩
        rw [runsS, if_pos h60, if_pos h2, hmc]
        first
          | rw [if_pos c_34]
          | rw [if_neg c_34, if_pos c_43, hR.1.th2]
          | rw [if_neg c_34, if_neg c_43, if_pos c_59, hR.1.af]
          | rw [if_neg c_34, if_neg c_43, if_neg c_59, h20]
    · refine st_iconst (q := 25) dX7_runs_24 rfl ic_m1 ?_
      refine st_ireturn dX7_runs_25 rfl ?_
      first
        | exact ⟨by rw [runsS, if_neg (by rw [zI_0.mp c_9]; decide)], rfl, ⟨_, _, hM, hA⟩, hF⟩
        | exact ⟨by rw [runsS, if_pos (zI_1.mp c_9), if_neg (by rw [zI_0.mp c_21]; decide)], rfl, ⟨_, _, hM, hA⟩, hF⟩
set_option maxRecDepth 100000 in
set_option maxHeartbeats 4000000 in
theorem c_X7_ahead {E : ev_E} {n : Nat} {w : ev_W} {S0 S : gT} {f0 f : Nat → Int32} {w0 : ev_W} (hF : Fr 70 82 w0 w) (hM : MR S f 70 n w) (hA : QA S0 S f0 f) {T : gT} {nh nt dd : Nat} (hG : GQ S f T nh nt dd) {x y z : Int32} : Ct E mX7_ahead [.ref 70, .int x, .int y, .int z] n w (ev_mr (aheadS T nh nt dd x y z) n w0 (QR S0 f0 n)) := by
  refine Ct.of 0 (by decide) (Nat.le_of_ble_eq_true rfl) rfl ?_
  have hd9 := hG.2.2.2
  refine st_aload_n (q := 1) dX7_ahead_0 rfl rfl rfl ?_
  refine st_iload_n (q := 2) dX7_ahead_1 rfl rfl rfl ?_
  refine sp_V1 (q := 5) (M' := mX7_isHouse) dX7_ahead_2 rfl ok_X7_isHouse mk_X7_isHouse ml_X7_167 ⟨Nat.le_of_ble_eq_true rfl, Nat.le_of_ble_eq_true rfl⟩ rfl (Nat.le_of_ble_eq_true rfl) (g_rv hM rfl) ⟨rfl, rfl⟩ (c_X7_isHouse hM) ?_
  refine st_if_eq (q := 8) (tgt := 30) dX7_ahead_5 rfl rfl (fun c_5 => ?_) (fun c_5 => ?_)
  · refine st_iconst (q := 31) dX7_ahead_30 rfl ic_m1 ?_
    refine st_ireturn dX7_ahead_31 rfl ?_
    first
      | exact ⟨by rw [aheadS, if_neg (by rw [← hG.2.1, zI_0.mp c_5]; decide)], rfl, ⟨_, _, hM, hA⟩, hF⟩
      | exact ⟨by rw [aheadS, if_pos (by rw [← hG.2.1]; exact zI_1.mp c_5), if_neg (by rw [zI_0.mp c_17]; decide)], rfl, ⟨_, _, hM, hA⟩, hF⟩
      | exact ⟨by rw [aheadS, if_pos (by rw [← hG.2.1]; exact zI_1.mp c_5), if_pos (zI_1.mp c_17), if_neg (by rw [zI_0.mp c_27]; decide)], rfl, ⟨_, _, hM, hA⟩, hF⟩
  · refine st_iload_n (q := 9) dX7_ahead_8 rfl rfl rfl ?_
    refine st_i2l (q := 10) dX7_ahead_9 rfl ?_
    refine st_lconst (q := 11) dX7_ahead_10 rfl lc_0 ?_
    refine st_ldc2 (q := 14) dX7_ahead_11 rfl cn_X7_206 ?_
    refine sp_S3 (q := 17) (M' := mX7_in) dX7_ahead_14 rfl ok_X7_in mk_X7_in ml_X7_46 ⟨Nat.le_of_ble_eq_true rfl, Nat.le_of_ble_eq_true rfl⟩ rfl (Nat.le_of_ble_eq_true rfl) ⟨rfl, rfl⟩ (c_X7_inI (a := 0) (c := 60) (by decide) (by decide)) ?_
    refine st_if_eq (q := 20) (tgt := 30) dX7_ahead_17 rfl rfl (fun c_17 => ?_) (fun c_17 => ?_)
    · refine st_iconst (q := 31) dX7_ahead_30 rfl ic_m1 ?_
      refine st_ireturn dX7_ahead_31 rfl ?_
      first
        | exact ⟨by rw [aheadS, if_neg (by rw [← hG.2.1, zI_0.mp c_5]; decide)], rfl, ⟨_, _, hM, hA⟩, hF⟩
        | exact ⟨by rw [aheadS, if_pos (by rw [← hG.2.1]; exact zI_1.mp c_5), if_neg (by rw [zI_0.mp c_17]; decide)], rfl, ⟨_, _, hM, hA⟩, hF⟩
        | exact ⟨by rw [aheadS, if_pos (by rw [← hG.2.1]; exact zI_1.mp c_5), if_pos (zI_1.mp c_17), if_neg (by rw [zI_0.mp c_27]; decide)], rfl, ⟨_, _, hM, hA⟩, hF⟩
    · refine st_iload_n (q := 21) dX7_ahead_20 rfl rfl rfl ?_
      refine st_i2l (q := 22) dX7_ahead_21 rfl ?_
      refine st_lconst (q := 23) dX7_ahead_22 rfl lc_0 ?_
      refine st_lconst (q := 24) dX7_ahead_23 rfl lc_1 ?_
      refine sp_S3 (q := 27) (M' := mX7_in) dX7_ahead_24 rfl ok_X7_in mk_X7_in ml_X7_46 ⟨Nat.le_of_ble_eq_true rfl, Nat.le_of_ble_eq_true rfl⟩ rfl (Nat.le_of_ble_eq_true rfl) ⟨rfl, rfl⟩ (c_X7_inI (a := 0) (c := 1) (by decide) (by decide)) ?_
      refine st_if_ne (q := 30) (tgt := 32) dX7_ahead_27 rfl rfl (fun c_27 => ?_) (fun c_27 => ?_)
      · have hN9 := hG.1.1.hnh
        obtain ⟨j, hj, rfl⟩ := inI_ix (by rw [← hG.2.1]; exact zI_1.mp c_5) (by omega)
        have h1 : inI (nI j) 0 (nI nh - 1) = true := by rw [← hG.2.1]; exact zI_1.mp c_5
        have hjc : (nI j).toNatClampNeg = j := nI_clamp (by omega)
        obtain ⟨m, hm, rfl⟩ := inI_k (k := 60) (zI_1.mp c_17) (by decide)
        have h60 : inI (nI m) 0 60 = true := zI_1.mp c_17
        have hmc : (nI m).toNatClampNeg = m := nI_clamp (by omega)
        refine st_aload_n (q := 33) dX7_ahead_32 rfl rfl rfl ?_
        refine st_iconst (q := 34) dX7_ahead_33 rfl ic_0 ?_
        refine st_iload_n (q := 35) dX7_ahead_34 rfl rfl rfl ?_
        refine sm_V2 (q := 38) (M' := mX7_daysGo) dX7_ahead_35 rfl ok_X7_daysGo mk_X7_daysGo ml_X7_208 ⟨Nat.le_of_ble_eq_true rfl, Nat.le_of_ble_eq_true rfl⟩ rfl (Nat.le_of_ble_eq_true rfl) (g_rv hM rfl) ⟨rfl, rfl⟩ (c_goT hM hG (p := 0) (by decide) (by decide) hG.1 (m := m) (by omega)) ?_
        intro _ n w h9 _
        obtain ⟨S, f, rfl, rfl, hM, hA_, hR, h20, hF_⟩ := h9
        replace hG := hG.qa hA_
        replace hA := hA.tr hA_
        replace hF := Fr.tr hF hF_
        refine st_pop (q := 39) dX7_ahead_38 rfl rfl ?_
        have hp4 : dysT T dd nh nt m 4 j = f (296 + j) := (hR.1.hs hj).2.2.2.1
        have hp2 : dysT T dd nh nt m 2 j = f (288 + j) := (hR.1.hs hj).2.1
        refine st_iload_n (q := 40) dX7_ahead_39 rfl rfl rfl ?_
        refine st_if_ne (q := 43) (tgt := 56) dX7_ahead_40 rfl rfl (fun c_40 => ?_) (fun c_40 => ?_)
        · refine st_aload_n (q := 57) dX7_ahead_56 rfl rfl rfl ?_
          refine g_getA (q := 60) dX7_ahead_57 rfl fl_X7_7.g hM rfl ?_
          refine st_sipush (q := 63) dX7_ahead_60 rfl sp_288 ?_
          refine st_iload_n (q := 64) dX7_ahead_63 rfl rfl rfl ?_
          refine st_iadd (q := 65) dX7_ahead_64 rfl ?_
          refine m_sld (q := 66) dX7_ahead_65 rfl hM (by exact ix2 (a := 288) (b := j) (by omega) (by decide)) ?_
          refine st_ireturn dX7_ahead_66 rfl ?_
          first
            | exact ⟨by rw [aheadS, if_pos h1, if_pos h60, if_pos (zI_1.mp c_27), hjc, hmc, if_pos c_40, hp4], rfl, ⟨_, _, hM, hA⟩, hF⟩
            | exact ⟨by rw [aheadS, if_pos h1, if_pos h60, if_pos (zI_1.mp c_27), hjc, hmc, if_neg c_40, hp2], rfl, ⟨_, _, hM, hA⟩, hF⟩
        · refine st_aload_n (q := 44) dX7_ahead_43 rfl rfl rfl ?_
          refine g_getA (q := 47) dX7_ahead_44 rfl fl_X7_7.g hM rfl ?_
          refine st_sipush (q := 50) dX7_ahead_47 rfl sp_296 ?_
          refine st_iload_n (q := 51) dX7_ahead_50 rfl rfl rfl ?_
          refine st_iadd (q := 52) dX7_ahead_51 rfl ?_
          refine m_sld (q := 53) dX7_ahead_52 rfl hM (by exact ix2 (a := 296) (b := j) (by omega) (by decide)) ?_
          refine st_goto (q := 66) dX7_ahead_53 rfl ?_
          refine st_ireturn dX7_ahead_66 rfl ?_
          first
            | exact ⟨by rw [aheadS, if_pos h1, if_pos h60, if_pos (zI_1.mp c_27), hjc, hmc, if_pos c_40, hp4], rfl, ⟨_, _, hM, hA⟩, hF⟩
            | exact ⟨by rw [aheadS, if_pos h1, if_pos h60, if_pos (zI_1.mp c_27), hjc, hmc, if_neg c_40, hp2], rfl, ⟨_, _, hM, hA⟩, hF⟩
      · refine st_iconst (q := 31) dX7_ahead_30 rfl ic_m1 ?_
        refine st_ireturn dX7_ahead_31 rfl ?_
        first
          | exact ⟨by rw [aheadS, if_neg (by rw [← hG.2.1, zI_0.mp c_5]; decide)], rfl, ⟨_, _, hM, hA⟩, hF⟩
          | exact ⟨by rw [aheadS, if_pos (by rw [← hG.2.1]; exact zI_1.mp c_5), if_neg (by rw [zI_0.mp c_17]; decide)], rfl, ⟨_, _, hM, hA⟩, hF⟩
          | exact ⟨by rw [aheadS, if_pos (by rw [← hG.2.1]; exact zI_1.mp c_5), if_pos (zI_1.mp c_17), if_neg (by rw [zI_0.mp c_27]; decide)], rfl, ⟨_, _, hM, hA⟩, hF⟩
set_option maxRecDepth 100000 in
set_option maxHeartbeats 4000000 in
theorem c_X7_lost {E : ev_E} {n : Nat} {w : ev_W} {S0 S : gT} {f0 f : Nat → Int32} {w0 : ev_W} (hF : Fr 70 82 w0 w) (hM : MR S f 70 n w) (hA : QA S0 S f0 f) {T : gT} {nh nt dd : Nat} (hG : GQ S f T nh nt dd) {x : Int32} : Ct E mX7_lost [.ref 70, .int x] n w (ev_mr (lostS T nh nt dd x) n w0 (QR S0 f0 n)) := by
  refine Ct.of 1 (by decide) (Nat.le_of_ble_eq_true rfl) rfl ?_
  have hd9 := hG.2.2.2
  refine st_aload_n (q := 1) dX7_lost_0 rfl rfl rfl ?_
  refine st_iload_n (q := 2) dX7_lost_1 rfl rfl rfl ?_
  refine sp_V1 (q := 5) (M' := mX7_isThing) dX7_lost_2 rfl ok_X7_isThing mk_X7_isThing ml_X7_176 ⟨Nat.le_of_ble_eq_true rfl, Nat.le_of_ble_eq_true rfl⟩ rfl (Nat.le_of_ble_eq_true rfl) (g_rv hM rfl) ⟨rfl, rfl⟩ (c_X7_isThing hM) ?_
  refine st_if_ne (q := 8) (tgt := 10) dX7_lost_5 rfl rfl (fun c_5 => ?_) (fun c_5 => ?_)
  · have hN9 := hG.1.1.hnt
    obtain ⟨j, hj, rfl⟩ := inI_ix (by rw [← hG.2.2.1]; exact zI_1.mp c_5) (by omega)
    have h1 : inI (nI j) 0 (nI nt - 1) = true := by rw [← hG.2.2.1]; exact zI_1.mp c_5
    have hjc : (nI j).toNatClampNeg = j := nI_clamp (by omega)
    refine st_aload_n (q := 11) dX7_lost_10 rfl rfl rfl ?_
    refine st_iconst (q := 12) dX7_lost_11 rfl ic_0 ?_
    refine st_sipush (q := 15) dX7_lost_12 rfl sp_284 ?_
    refine sm_V2 (q := 18) (M' := mX7_copies) dX7_lost_15 rfl ok_X7_copies mk_X7_copies ml_X7_200 ⟨Nat.le_of_ble_eq_true rfl, Nat.le_of_ble_eq_true rfl⟩ rfl (Nat.le_of_ble_eq_true rfl) (g_rv hM rfl) ⟨rfl, rfl⟩ (c_copyT hM hG (c := 284) (by decide) (by decide)) ?_
    intro _ n w h9 _
    obtain ⟨f, rfl, rfl, hM, hA_, hR, hF_⟩ := h9
    replace hG := hG.qa hA_
    replace hA := hA.tr hA_
    replace hF := Fr.tr hF hF_
    refine st_iconst (q := 19) dX7_lost_18 rfl ic_0 ?_
    refine st_istore_n (q := 20) (L' := [_, _, _]) dX7_lost_19 rfl rfl (Nat.le_of_ble_eq_true rfl) rfl ?_
    have lp : ∀ (k i : Nat), i + k = 61 → ∀ (w1 : ev_W) (S1 : gT) (f1 : Nat → Int32), MR S1 f1 70 n w1 → QA S0 S1 f0 f1 → GQ S1 f1 T nh nt dd → Fr 70 82 w0 w1 → RQ (dysT T dd nh nt i) f1 284 nh nt (dd + i) → srF (fun d => btI (dysT T dd nh nt d 12 0) (nI j)) i k = lostS T nh nt dd (nI j) → Ev E mX7_lost 20 [some (.ref 70), some (.int (nI j)), some (.int (nI i))] [] n w1 (0, 0) (ev_mr (lostS T nh nt dd (nI j)) n w0 (QR S0 f0 n)) := by
      clear hM hA hG hF hR
      intro k
      induction k with
      | zero =>
        intro i hi w S f hM hA hG hF hR hs
        obtain rfl : 61 = i := by omega
        refine st_iload_n (q := 21) dX7_lost_20 rfl rfl rfl ?_
        refine st_bipush (q := 23) dX7_lost_21 rfl bp_60 ?_
        refine st_icmp_gt (q := 26) (tgt := 62) dX7_lost_23 rfl rfl (fun c_23 => ?_) (fun c_23 => False.elim (c_23 (by decide)))
        refine st_bipush (q := 64) dX7_lost_62 rfl bp_m4 ?_
        refine st_ireturn dX7_lost_64 rfl ?_
        exact ⟨by rw [← hs]; rfl, rfl, ⟨_, _, hM, hA⟩, hF⟩
      | succ k ih =>
        intro i hi w S f hM hA hG hF hR hs
        refine st_iload_n (q := 21) dX7_lost_20 rfl rfl rfl ?_
        refine st_bipush (q := 23) dX7_lost_21 rfl bp_60 ?_
        refine st_icmp_gt (q := 26) (tgt := 62) dX7_lost_23 rfl rfl (fun c_23 => False.elim (absurd c_23 (nI_nlt (a := 60) (b := i) (by omega) (by omega)))) (fun c_23 => ?_)
        have g9 : btI (dysT T dd nh nt i 12 0) (nI j) = decide (f (336 + j) = 2) := hR.1.gone hj
        refine st_aload_n (q := 27) dX7_lost_26 rfl rfl rfl ?_
        refine g_getA (q := 30) dX7_lost_27 rfl fl_X7_7.g hM rfl ?_
        refine st_sipush (q := 33) dX7_lost_30 rfl sp_336 ?_
        refine st_iload_n (q := 34) dX7_lost_33 rfl rfl rfl ?_
        refine st_iadd (q := 35) dX7_lost_34 rfl ?_
        refine m_sld (q := 36) dX7_lost_35 rfl hM (by exact ix2 (a := 336) (b := j) (by omega) (by decide)) ?_
        refine st_iconst (q := 37) dX7_lost_36 rfl ic_2 ?_
        refine st_icmp_ne (q := 40) (tgt := 42) dX7_lost_37 rfl rfl (fun c_37 => ?_) (fun c_37 => ?_)
        · refine st_aload_n (q := 43) dX7_lost_42 rfl rfl rfl ?_
          refine st_sipush (q := 46) dX7_lost_43 rfl sp_284 ?_
          refine st_aload_n (q := 47) dX7_lost_46 rfl rfl rfl ?_
          refine st_sipush (q := 50) dX7_lost_47 rfl sp_284 ?_
          refine sp_V1 (q := 53) (M' := mX7_riseOn) dX7_lost_50 rfl ok_X7_riseOn mk_X7_riseOn ml_X7_194 ⟨Nat.le_of_ble_eq_true rfl, Nat.le_of_ble_eq_true rfl⟩ rfl (Nat.le_of_ble_eq_true rfl) (g_rv hM rfl) ⟨rfl, rfl⟩ (c_X7_riseOn hM (p := 284) (by decide) hR.ed (by omega)) ?_
          refine sm_V2 (q := 56) (M' := mX7_dayOn) dX7_lost_53 rfl ok_X7_dayOn mk_X7_dayOn ml_X7_197 ⟨Nat.le_of_ble_eq_true rfl, Nat.le_of_ble_eq_true rfl⟩ rfl (Nat.le_of_ble_eq_true rfl) (g_rv hM rfl) ⟨rfl, rfl⟩ (c_dayT hM hG hR) ?_
          intro _ n w h9 _
          obtain ⟨f, rfl, rfl, hM, hA_, hR, hF_⟩ := h9
          replace hG := hG.qa hA_
          replace hA := hA.tr hA_
          replace hF := Fr.tr hF hF_
          refine st_iinc (q := 59) (L' := [_, _, _]) dX7_lost_56 rfl rfl (nI_succ _).symm (Nat.le_of_ble_eq_true rfl) rfl ?_
          refine st_goto (q := 20) dX7_lost_59 rfl ?_
          refine ih (i + 1) (by omega) w S f hM hA hG hF hR ?_
          rw [← hs, srF, if_neg (by rw [g9, decide_eq_false c_37]; decide)]
        · refine st_iload_n (q := 41) dX7_lost_40 rfl rfl rfl ?_
          refine st_ireturn dX7_lost_41 rfl ?_
          exact ⟨by rw [← hs, srF, if_pos (by rw [g9]; exact decide_eq_true c_37)], rfl, ⟨_, _, hM, hA⟩, hF⟩
    exact lp 61 0 (by omega) w S f hM hA hG hF hR (by rw [lostS, if_pos h1])
  · refine st_iconst (q := 9) dX7_lost_8 rfl ic_m1 ?_
    refine st_ireturn dX7_lost_9 rfl ?_
    exact ⟨by rw [lostS, if_neg (by rw [← hG.2.2.1, zI_0.mp c_5]; decide)], rfl, ⟨_, _, hM, hA⟩, hF⟩
set_option maxRecDepth 100000 in
set_option maxHeartbeats 4000000 in
theorem c_X7_meet {E : ev_E} {n : Nat} {w : ev_W} {S0 S : gT} {f0 f : Nat → Int32} {w0 : ev_W} (hF : Fr 70 82 w0 w) (hM : MR S f 70 n w) (hA : QA S0 S f0 f) {T : gT} {nh nt dd : Nat} (hG : GQ S f T nh nt dd) {x y : Int32} : Ct E mX7_meet [.ref 70, .int x, .int y] n w (ev_mr (meetS T nh nt dd x y) n w0 (QR S0 f0 n)) := by
  refine Ct.of 2 (by decide) (Nat.le_of_ble_eq_true rfl) rfl ?_
  have hd9 := hG.2.2.2
  refine st_aload_n (q := 1) dX7_meet_0 rfl rfl rfl ?_
  refine st_iload_n (q := 2) dX7_meet_1 rfl rfl rfl ?_
  refine sp_V1 (q := 5) (M' := mX7_isHouse) dX7_meet_2 rfl ok_X7_isHouse mk_X7_isHouse ml_X7_167 ⟨Nat.le_of_ble_eq_true rfl, Nat.le_of_ble_eq_true rfl⟩ rfl (Nat.le_of_ble_eq_true rfl) (g_rv hM rfl) ⟨rfl, rfl⟩ (c_X7_isHouse hM) ?_
  refine st_if_eq (q := 8) (tgt := 21) dX7_meet_5 rfl rfl (fun c_5 => ?_) (fun c_5 => ?_)
  · refine st_iconst (q := 22) dX7_meet_21 rfl ic_m1 ?_
    refine st_ireturn dX7_meet_22 rfl ?_
    first
      | exact ⟨by rw [meetS, if_neg (by rw [← hG.2.1, zI_0.mp c_5]; decide)], rfl, ⟨_, _, hM, hA⟩, hF⟩
      | exact ⟨by rw [meetS, if_pos (by rw [← hG.2.1]; exact zI_1.mp c_5), if_neg (by rw [← hG.2.1, zI_0.mp c_13]; decide)], rfl, ⟨_, _, hM, hA⟩, hF⟩
      | exact ⟨by rw [meetS, if_pos (by rw [← hG.2.1]; exact zI_1.mp c_5), if_pos (by rw [← hG.2.1]; exact zI_1.mp c_13), if_pos c_18], rfl, ⟨_, _, hM, hA⟩, hF⟩
  · refine st_aload_n (q := 9) dX7_meet_8 rfl rfl rfl ?_
    refine st_iload_n (q := 10) dX7_meet_9 rfl rfl rfl ?_
    refine sp_V1 (q := 13) (M' := mX7_isHouse) dX7_meet_10 rfl ok_X7_isHouse mk_X7_isHouse ml_X7_167 ⟨Nat.le_of_ble_eq_true rfl, Nat.le_of_ble_eq_true rfl⟩ rfl (Nat.le_of_ble_eq_true rfl) (g_rv hM rfl) ⟨rfl, rfl⟩ (c_X7_isHouse hM) ?_
    refine st_if_eq (q := 16) (tgt := 21) dX7_meet_13 rfl rfl (fun c_13 => ?_) (fun c_13 => ?_)
    · refine st_iconst (q := 22) dX7_meet_21 rfl ic_m1 ?_
      refine st_ireturn dX7_meet_22 rfl ?_
      first
        | exact ⟨by rw [meetS, if_neg (by rw [← hG.2.1, zI_0.mp c_5]; decide)], rfl, ⟨_, _, hM, hA⟩, hF⟩
        | exact ⟨by rw [meetS, if_pos (by rw [← hG.2.1]; exact zI_1.mp c_5), if_neg (by rw [← hG.2.1, zI_0.mp c_13]; decide)], rfl, ⟨_, _, hM, hA⟩, hF⟩
        | exact ⟨by rw [meetS, if_pos (by rw [← hG.2.1]; exact zI_1.mp c_5), if_pos (by rw [← hG.2.1]; exact zI_1.mp c_13), if_pos c_18], rfl, ⟨_, _, hM, hA⟩, hF⟩
    · refine st_iload_n (q := 17) dX7_meet_16 rfl rfl rfl ?_
      refine st_iload_n (q := 18) dX7_meet_17 rfl rfl rfl ?_
      refine st_icmp_ne (q := 21) (tgt := 23) dX7_meet_18 rfl rfl (fun c_18 => ?_) (fun c_18 => ?_)
      · have hN9 := hG.1.1.hnh
        obtain ⟨j, hj, rfl⟩ := inI_ix (by rw [← hG.2.1]; exact zI_1.mp c_5) (by omega)
        have h1 : inI (nI j) 0 (nI nh - 1) = true := by rw [← hG.2.1]; exact zI_1.mp c_5
        have hjc : (nI j).toNatClampNeg = j := nI_clamp (by omega)
        obtain ⟨g, hg, rfl⟩ := inI_ix (by rw [← hG.2.1]; exact zI_1.mp c_13) (by omega)
        have h2 : inI (nI g) 0 (nI nh - 1) = true := by rw [← hG.2.1]; exact zI_1.mp c_13
        have hgc : (nI g).toNatClampNeg = g := nI_clamp (by omega)
        refine st_aload_n (q := 24) dX7_meet_23 rfl rfl rfl ?_
        refine st_iconst (q := 25) dX7_meet_24 rfl ic_0 ?_
        refine st_sipush (q := 28) dX7_meet_25 rfl sp_284 ?_
        refine sm_V2 (q := 31) (M' := mX7_copies) dX7_meet_28 rfl ok_X7_copies mk_X7_copies ml_X7_200 ⟨Nat.le_of_ble_eq_true rfl, Nat.le_of_ble_eq_true rfl⟩ rfl (Nat.le_of_ble_eq_true rfl) (g_rv hM rfl) ⟨rfl, rfl⟩ (c_copyT hM hG (c := 284) (by decide) (by decide)) ?_
        intro _ n w h9 _
        obtain ⟨f, rfl, rfl, hM, hA_, hR, hF_⟩ := h9
        replace hG := hG.qa hA_
        replace hA := hA.tr hA_
        replace hF := Fr.tr hF hF_
        refine st_iconst (q := 32) dX7_meet_31 rfl ic_0 ?_
        refine st_istore_n (q := 33) (L' := [_, _, _, _, _]) dX7_meet_32 rfl rfl (Nat.le_of_ble_eq_true rfl) rfl ?_
        have lp : ∀ (k i : Nat), i + k = 61 → ∀ (w1 : ev_W) (S1 : gT) (f1 : Nat → Int32) (lq : Option Value), MR S1 f1 70 n w1 → QA S0 S1 f0 f1 → GQ S1 f1 T nh nt dd → Fr 70 82 w0 w1 → RQ (dysT T dd nh nt i) f1 284 nh nt (dd + i) → srF (meetP T nh nt dd (nI j) (nI g)) i k = meetS T nh nt dd (nI j) (nI g) → Ev E mX7_meet 33 [some (.ref 70), some (.int (nI j)), some (.int (nI g)), some (.int (nI i)), lq] [] n w1 (0, 0) (ev_mr (meetS T nh nt dd (nI j) (nI g)) n w0 (QR S0 f0 n)) := by
          clear hM hA hG hF hR
          intro k
          induction k with
          | zero =>
            intro i hi w S f lq hM hA hG hF hR hs
            obtain rfl : 61 = i := by omega
            refine st_iload_n (q := 34) dX7_meet_33 rfl rfl rfl ?_
            refine st_bipush (q := 36) dX7_meet_34 rfl bp_60 ?_
            refine st_icmp_gt (q := 39) (tgt := 124) dX7_meet_36 rfl rfl (fun c_36 => ?_) (fun c_36 => False.elim (c_36 (by decide)))
            refine st_bipush (q := 126) dX7_meet_124 rfl bp_m4 ?_
            refine st_ireturn dX7_meet_126 rfl ?_
            exact ⟨by rw [← hs]; rfl, rfl, ⟨_, _, hM, hA⟩, hF⟩
          | succ k ih =>
            intro i hi w S f lq hM hA hG hF hR hs
            refine st_iload_n (q := 34) dX7_meet_33 rfl rfl rfl ?_
            refine st_bipush (q := 36) dX7_meet_34 rfl bp_60 ?_
            refine st_icmp_gt (q := 39) (tgt := 124) dX7_meet_36 rfl rfl (fun c_36 => False.elim (absurd c_36 (nI_nlt (a := 60) (b := i) (by omega) (by omega)))) (fun c_36 => ?_)
            have gj : btI (dysT T dd nh nt i 5 0) (nI j) = decide (f (300 + j) = 1) := hR.1.afl hj
            have gg : btI (dysT T dd nh nt i 5 0) (nI g) = decide (f (300 + g) = 1) := hR.1.afl hg
            have pj : dysT T dd nh nt i 4 j = f (296 + j) := (hR.1.hs hj).2.2.2.1
            have pg : dysT T dd nh nt i 4 g = f (296 + g) := (hR.1.hs hg).2.2.2.1
            have hmp : meetP T nh nt dd (nI j) (nI g) i = (decide (f (300 + j) = 1) && (decide (f (300 + g) = 1) && decide (f (296 + j) = f (296 + g)))) := by rw [meetP, hjc, hgc, gj, gg, pj, pg]
            refine st_aload_n (q := 40) dX7_meet_39 rfl rfl rfl ?_
            refine g_getA (q := 43) dX7_meet_40 rfl fl_X7_7.g hM rfl ?_
            refine st_sipush (q := 46) dX7_meet_43 rfl sp_300 ?_
            refine st_iload_n (q := 47) dX7_meet_46 rfl rfl rfl ?_
            refine st_iadd (q := 48) dX7_meet_47 rfl ?_
            refine m_sld (q := 49) dX7_meet_48 rfl hM (by exact ix2 (a := 300) (b := j) (by omega) (by decide)) ?_
            refine st_iconst (q := 50) dX7_meet_49 rfl ic_1 ?_
            refine st_icmp_ne (q := 53) (tgt := 71) dX7_meet_50 rfl rfl (fun c_50 => ?_) (fun c_50 => ?_)
            · refine st_iconst (q := 72) dX7_meet_71 rfl ic_0 ?_
              refine st_istore (q := 74) (L' := [_, _, _, _, _]) dX7_meet_72 rfl (Nat.le_of_ble_eq_true rfl) rfl ?_
              refine st_iload (q := 76) dX7_meet_74 rfl rfl ?_
              refine st_if_eq (q := 79) (tgt := 104) dX7_meet_76 rfl rfl (fun c_76 => ?_) (fun c_76 => ?_)
              · refine st_aload_n (q := 105) dX7_meet_104 rfl rfl rfl ?_
                refine st_sipush (q := 108) dX7_meet_105 rfl sp_284 ?_
                refine st_aload_n (q := 109) dX7_meet_108 rfl rfl rfl ?_
                refine st_sipush (q := 112) dX7_meet_109 rfl sp_284 ?_
                refine sp_V1 (q := 115) (M' := mX7_riseOn) dX7_meet_112 rfl ok_X7_riseOn mk_X7_riseOn ml_X7_194 ⟨Nat.le_of_ble_eq_true rfl, Nat.le_of_ble_eq_true rfl⟩ rfl (Nat.le_of_ble_eq_true rfl) (g_rv hM rfl) ⟨rfl, rfl⟩ (c_X7_riseOn hM (p := 284) (by decide) hR.ed (by omega)) ?_
                refine sm_V2 (q := 118) (M' := mX7_dayOn) dX7_meet_115 rfl ok_X7_dayOn mk_X7_dayOn ml_X7_197 ⟨Nat.le_of_ble_eq_true rfl, Nat.le_of_ble_eq_true rfl⟩ rfl (Nat.le_of_ble_eq_true rfl) (g_rv hM rfl) ⟨rfl, rfl⟩ (c_dayT hM hG hR) ?_
                intro _ n w h9 _
                obtain ⟨f, rfl, rfl, hM, hA_, hR, hF_⟩ := h9
                replace hG := hG.qa hA_
                replace hA := hA.tr hA_
                replace hF := Fr.tr hF hF_
                refine st_iinc (q := 121) (L' := [_, _, _, _, _]) dX7_meet_118 rfl rfl (nI_succ _).symm (Nat.le_of_ble_eq_true rfl) rfl ?_
                refine st_goto (q := 33) dX7_meet_121 rfl ?_
                first
                  | exact absurd rfl c_76
                  | exact absurd c_76 (by decide)
                  | (refine ih (i + 1) (by omega) w S f _ hM hA hG hF hR ?_; rw [← hs, srF, if_neg (by rw [hmp, decide_eq_false c_50]; simp)])
                  | (refine ih (i + 1) (by omega) w S f _ hM hA hG hF hR ?_; rw [← hs, srF, if_neg (by rw [hmp, decide_eq_false c_64]; simp)])
                  | (refine ih (i + 1) (by omega) w S f _ hM hA hG hF hR ?_; rw [← hs, srF, if_neg (by rw [hmp, decide_eq_false c_99]; simp)])
              · refine st_aload_n (q := 80) dX7_meet_79 rfl rfl rfl ?_
                refine g_getA (q := 83) dX7_meet_80 rfl fl_X7_7.g hM rfl ?_
                refine st_sipush (q := 86) dX7_meet_83 rfl sp_296 ?_
                refine st_iload_n (q := 87) dX7_meet_86 rfl rfl rfl ?_
                refine st_iadd (q := 88) dX7_meet_87 rfl ?_
                refine m_sld (q := 89) dX7_meet_88 rfl hM (by exact ix2 (a := 296) (b := j) (by omega) (by decide)) ?_
                refine st_aload_n (q := 90) dX7_meet_89 rfl rfl rfl ?_
                refine g_getA (q := 93) dX7_meet_90 rfl fl_X7_7.g hM rfl ?_
                refine st_sipush (q := 96) dX7_meet_93 rfl sp_296 ?_
                refine st_iload_n (q := 97) dX7_meet_96 rfl rfl rfl ?_
                refine st_iadd (q := 98) dX7_meet_97 rfl ?_
                refine m_sld (q := 99) dX7_meet_98 rfl hM (by exact ix2 (a := 296) (b := g) (by omega) (by decide)) ?_
                refine st_icmp_ne (q := 102) (tgt := 104) dX7_meet_99 rfl rfl (fun c_99 => ?_) (fun c_99 => ?_)
                · refine st_aload_n (q := 105) dX7_meet_104 rfl rfl rfl ?_
                  refine st_sipush (q := 108) dX7_meet_105 rfl sp_284 ?_
                  refine st_aload_n (q := 109) dX7_meet_108 rfl rfl rfl ?_
                  refine st_sipush (q := 112) dX7_meet_109 rfl sp_284 ?_
                  refine sp_V1 (q := 115) (M' := mX7_riseOn) dX7_meet_112 rfl ok_X7_riseOn mk_X7_riseOn ml_X7_194 ⟨Nat.le_of_ble_eq_true rfl, Nat.le_of_ble_eq_true rfl⟩ rfl (Nat.le_of_ble_eq_true rfl) (g_rv hM rfl) ⟨rfl, rfl⟩ (c_X7_riseOn hM (p := 284) (by decide) hR.ed (by omega)) ?_
                  refine sm_V2 (q := 118) (M' := mX7_dayOn) dX7_meet_115 rfl ok_X7_dayOn mk_X7_dayOn ml_X7_197 ⟨Nat.le_of_ble_eq_true rfl, Nat.le_of_ble_eq_true rfl⟩ rfl (Nat.le_of_ble_eq_true rfl) (g_rv hM rfl) ⟨rfl, rfl⟩ (c_dayT hM hG hR) ?_
                  intro _ n w h9 _
                  obtain ⟨f, rfl, rfl, hM, hA_, hR, hF_⟩ := h9
                  replace hG := hG.qa hA_
                  replace hA := hA.tr hA_
                  replace hF := Fr.tr hF hF_
                  refine st_iinc (q := 121) (L' := [_, _, _, _, _]) dX7_meet_118 rfl rfl (nI_succ _).symm (Nat.le_of_ble_eq_true rfl) rfl ?_
                  refine st_goto (q := 33) dX7_meet_121 rfl ?_
                  first
                    | exact absurd rfl c_76
                    | exact absurd c_76 (by decide)
                    | (refine ih (i + 1) (by omega) w S f _ hM hA hG hF hR ?_; rw [← hs, srF, if_neg (by rw [hmp, decide_eq_false c_50]; simp)])
                    | (refine ih (i + 1) (by omega) w S f _ hM hA hG hF hR ?_; rw [← hs, srF, if_neg (by rw [hmp, decide_eq_false c_64]; simp)])
                    | (refine ih (i + 1) (by omega) w S f _ hM hA hG hF hR ?_; rw [← hs, srF, if_neg (by rw [hmp, decide_eq_false c_99]; simp)])
                · refine st_iload_n (q := 103) dX7_meet_102 rfl rfl rfl ?_
                  refine st_ireturn dX7_meet_103 rfl ?_
                  first
                    | exact absurd rfl c_76
                    | exact ⟨by rw [← hs, srF, if_pos (by rw [hmp, decide_eq_true c_50, decide_eq_true c_64, decide_eq_true c_99]; rfl)], rfl, ⟨_, _, hM, hA⟩, hF⟩
            · refine st_aload_n (q := 54) dX7_meet_53 rfl rfl rfl ?_
              refine g_getA (q := 57) dX7_meet_54 rfl fl_X7_7.g hM rfl ?_
              refine st_sipush (q := 60) dX7_meet_57 rfl sp_300 ?_
              refine st_iload_n (q := 61) dX7_meet_60 rfl rfl rfl ?_
              refine st_iadd (q := 62) dX7_meet_61 rfl ?_
              refine m_sld (q := 63) dX7_meet_62 rfl hM (by exact ix2 (a := 300) (b := g) (by omega) (by decide)) ?_
              refine st_iconst (q := 64) dX7_meet_63 rfl ic_1 ?_
              refine st_icmp_ne (q := 67) (tgt := 71) dX7_meet_64 rfl rfl (fun c_64 => ?_) (fun c_64 => ?_)
              · refine st_iconst (q := 72) dX7_meet_71 rfl ic_0 ?_
                refine st_istore (q := 74) (L' := [_, _, _, _, _]) dX7_meet_72 rfl (Nat.le_of_ble_eq_true rfl) rfl ?_
                refine st_iload (q := 76) dX7_meet_74 rfl rfl ?_
                refine st_if_eq (q := 79) (tgt := 104) dX7_meet_76 rfl rfl (fun c_76 => ?_) (fun c_76 => ?_)
                · refine st_aload_n (q := 105) dX7_meet_104 rfl rfl rfl ?_
                  refine st_sipush (q := 108) dX7_meet_105 rfl sp_284 ?_
                  refine st_aload_n (q := 109) dX7_meet_108 rfl rfl rfl ?_
                  refine st_sipush (q := 112) dX7_meet_109 rfl sp_284 ?_
                  refine sp_V1 (q := 115) (M' := mX7_riseOn) dX7_meet_112 rfl ok_X7_riseOn mk_X7_riseOn ml_X7_194 ⟨Nat.le_of_ble_eq_true rfl, Nat.le_of_ble_eq_true rfl⟩ rfl (Nat.le_of_ble_eq_true rfl) (g_rv hM rfl) ⟨rfl, rfl⟩ (c_X7_riseOn hM (p := 284) (by decide) hR.ed (by omega)) ?_
                  refine sm_V2 (q := 118) (M' := mX7_dayOn) dX7_meet_115 rfl ok_X7_dayOn mk_X7_dayOn ml_X7_197 ⟨Nat.le_of_ble_eq_true rfl, Nat.le_of_ble_eq_true rfl⟩ rfl (Nat.le_of_ble_eq_true rfl) (g_rv hM rfl) ⟨rfl, rfl⟩ (c_dayT hM hG hR) ?_
                  intro _ n w h9 _
                  obtain ⟨f, rfl, rfl, hM, hA_, hR, hF_⟩ := h9
                  replace hG := hG.qa hA_
                  replace hA := hA.tr hA_
                  replace hF := Fr.tr hF hF_
                  refine st_iinc (q := 121) (L' := [_, _, _, _, _]) dX7_meet_118 rfl rfl (nI_succ _).symm (Nat.le_of_ble_eq_true rfl) rfl ?_
                  refine st_goto (q := 33) dX7_meet_121 rfl ?_
                  first
                    | exact absurd rfl c_76
                    | exact absurd c_76 (by decide)
                    | (refine ih (i + 1) (by omega) w S f _ hM hA hG hF hR ?_; rw [← hs, srF, if_neg (by rw [hmp, decide_eq_false c_50]; simp)])
                    | (refine ih (i + 1) (by omega) w S f _ hM hA hG hF hR ?_; rw [← hs, srF, if_neg (by rw [hmp, decide_eq_false c_64]; simp)])
                    | (refine ih (i + 1) (by omega) w S f _ hM hA hG hF hR ?_; rw [← hs, srF, if_neg (by rw [hmp, decide_eq_false c_99]; simp)])
                · refine st_aload_n (q := 80) dX7_meet_79 rfl rfl rfl ?_
                  refine g_getA (q := 83) dX7_meet_80 rfl fl_X7_7.g hM rfl ?_
                  refine st_sipush (q := 86) dX7_meet_83 rfl sp_296 ?_
                  refine st_iload_n (q := 87) dX7_meet_86 rfl rfl rfl ?_
                  refine st_iadd (q := 88) dX7_meet_87 rfl ?_
                  refine m_sld (q := 89) dX7_meet_88 rfl hM (by exact ix2 (a := 296) (b := j) (by omega) (by decide)) ?_
                  refine st_aload_n (q := 90) dX7_meet_89 rfl rfl rfl ?_
                  refine g_getA (q := 93) dX7_meet_90 rfl fl_X7_7.g hM rfl ?_
                  refine st_sipush (q := 96) dX7_meet_93 rfl sp_296 ?_
                  refine st_iload_n (q := 97) dX7_meet_96 rfl rfl rfl ?_
                  refine st_iadd (q := 98) dX7_meet_97 rfl ?_
                  refine m_sld (q := 99) dX7_meet_98 rfl hM (by exact ix2 (a := 296) (b := g) (by omega) (by decide)) ?_
                  refine st_icmp_ne (q := 102) (tgt := 104) dX7_meet_99 rfl rfl (fun c_99 => ?_) (fun c_99 => ?_)
                  · refine st_aload_n (q := 105) dX7_meet_104 rfl rfl rfl ?_
                    refine st_sipush (q := 108) dX7_meet_105 rfl sp_284 ?_
                    refine st_aload_n (q := 109) dX7_meet_108 rfl rfl rfl ?_
                    refine st_sipush (q := 112) dX7_meet_109 rfl sp_284 ?_
                    refine sp_V1 (q := 115) (M' := mX7_riseOn) dX7_meet_112 rfl ok_X7_riseOn mk_X7_riseOn ml_X7_194 ⟨Nat.le_of_ble_eq_true rfl, Nat.le_of_ble_eq_true rfl⟩ rfl (Nat.le_of_ble_eq_true rfl) (g_rv hM rfl) ⟨rfl, rfl⟩ (c_X7_riseOn hM (p := 284) (by decide) hR.ed (by omega)) ?_
                    refine sm_V2 (q := 118) (M' := mX7_dayOn) dX7_meet_115 rfl ok_X7_dayOn mk_X7_dayOn ml_X7_197 ⟨Nat.le_of_ble_eq_true rfl, Nat.le_of_ble_eq_true rfl⟩ rfl (Nat.le_of_ble_eq_true rfl) (g_rv hM rfl) ⟨rfl, rfl⟩ (c_dayT hM hG hR) ?_
                    intro _ n w h9 _
                    obtain ⟨f, rfl, rfl, hM, hA_, hR, hF_⟩ := h9
                    replace hG := hG.qa hA_
                    replace hA := hA.tr hA_
                    replace hF := Fr.tr hF hF_
                    refine st_iinc (q := 121) (L' := [_, _, _, _, _]) dX7_meet_118 rfl rfl (nI_succ _).symm (Nat.le_of_ble_eq_true rfl) rfl ?_
                    refine st_goto (q := 33) dX7_meet_121 rfl ?_
                    first
                      | exact absurd rfl c_76
                      | exact absurd c_76 (by decide)
                      | (refine ih (i + 1) (by omega) w S f _ hM hA hG hF hR ?_; rw [← hs, srF, if_neg (by rw [hmp, decide_eq_false c_50]; simp)])
                      | (refine ih (i + 1) (by omega) w S f _ hM hA hG hF hR ?_; rw [← hs, srF, if_neg (by rw [hmp, decide_eq_false c_64]; simp)])
                      | (refine ih (i + 1) (by omega) w S f _ hM hA hG hF hR ?_; rw [← hs, srF, if_neg (by rw [hmp, decide_eq_false c_99]; simp)])
                  · refine st_iload_n (q := 103) dX7_meet_102 rfl rfl rfl ?_
                    refine st_ireturn dX7_meet_103 rfl ?_
                    first
                      | exact absurd rfl c_76
                      | exact ⟨by rw [← hs, srF, if_pos (by rw [hmp, decide_eq_true c_50, decide_eq_true c_64, decide_eq_true c_99]; rfl)], rfl, ⟨_, _, hM, hA⟩, hF⟩
              · refine st_iconst (q := 68) dX7_meet_67 rfl ic_1 ?_
                refine st_goto (q := 72) dX7_meet_68 rfl ?_
                refine st_istore (q := 74) (L' := [_, _, _, _, _]) dX7_meet_72 rfl (Nat.le_of_ble_eq_true rfl) rfl ?_
                refine st_iload (q := 76) dX7_meet_74 rfl rfl ?_
                refine st_if_eq (q := 79) (tgt := 104) dX7_meet_76 rfl rfl (fun c_76 => ?_) (fun c_76 => ?_)
                · refine st_aload_n (q := 105) dX7_meet_104 rfl rfl rfl ?_
                  refine st_sipush (q := 108) dX7_meet_105 rfl sp_284 ?_
                  refine st_aload_n (q := 109) dX7_meet_108 rfl rfl rfl ?_
                  refine st_sipush (q := 112) dX7_meet_109 rfl sp_284 ?_
                  refine sp_V1 (q := 115) (M' := mX7_riseOn) dX7_meet_112 rfl ok_X7_riseOn mk_X7_riseOn ml_X7_194 ⟨Nat.le_of_ble_eq_true rfl, Nat.le_of_ble_eq_true rfl⟩ rfl (Nat.le_of_ble_eq_true rfl) (g_rv hM rfl) ⟨rfl, rfl⟩ (c_X7_riseOn hM (p := 284) (by decide) hR.ed (by omega)) ?_
                  refine sm_V2 (q := 118) (M' := mX7_dayOn) dX7_meet_115 rfl ok_X7_dayOn mk_X7_dayOn ml_X7_197 ⟨Nat.le_of_ble_eq_true rfl, Nat.le_of_ble_eq_true rfl⟩ rfl (Nat.le_of_ble_eq_true rfl) (g_rv hM rfl) ⟨rfl, rfl⟩ (c_dayT hM hG hR) ?_
                  intro _ n w h9 _
                  obtain ⟨f, rfl, rfl, hM, hA_, hR, hF_⟩ := h9
                  replace hG := hG.qa hA_
                  replace hA := hA.tr hA_
                  replace hF := Fr.tr hF hF_
                  refine st_iinc (q := 121) (L' := [_, _, _, _, _]) dX7_meet_118 rfl rfl (nI_succ _).symm (Nat.le_of_ble_eq_true rfl) rfl ?_
                  refine st_goto (q := 33) dX7_meet_121 rfl ?_
                  first
                    | exact absurd rfl c_76
                    | exact absurd c_76 (by decide)
                    | (refine ih (i + 1) (by omega) w S f _ hM hA hG hF hR ?_; rw [← hs, srF, if_neg (by rw [hmp, decide_eq_false c_50]; simp)])
                    | (refine ih (i + 1) (by omega) w S f _ hM hA hG hF hR ?_; rw [← hs, srF, if_neg (by rw [hmp, decide_eq_false c_64]; simp)])
                    | (refine ih (i + 1) (by omega) w S f _ hM hA hG hF hR ?_; rw [← hs, srF, if_neg (by rw [hmp, decide_eq_false c_99]; simp)])
                · refine st_aload_n (q := 80) dX7_meet_79 rfl rfl rfl ?_
                  refine g_getA (q := 83) dX7_meet_80 rfl fl_X7_7.g hM rfl ?_
                  refine st_sipush (q := 86) dX7_meet_83 rfl sp_296 ?_
                  refine st_iload_n (q := 87) dX7_meet_86 rfl rfl rfl ?_
                  refine st_iadd (q := 88) dX7_meet_87 rfl ?_
                  refine m_sld (q := 89) dX7_meet_88 rfl hM (by exact ix2 (a := 296) (b := j) (by omega) (by decide)) ?_
                  refine st_aload_n (q := 90) dX7_meet_89 rfl rfl rfl ?_
                  refine g_getA (q := 93) dX7_meet_90 rfl fl_X7_7.g hM rfl ?_
                  refine st_sipush (q := 96) dX7_meet_93 rfl sp_296 ?_
                  refine st_iload_n (q := 97) dX7_meet_96 rfl rfl rfl ?_
                  refine st_iadd (q := 98) dX7_meet_97 rfl ?_
                  refine m_sld (q := 99) dX7_meet_98 rfl hM (by exact ix2 (a := 296) (b := g) (by omega) (by decide)) ?_
                  refine st_icmp_ne (q := 102) (tgt := 104) dX7_meet_99 rfl rfl (fun c_99 => ?_) (fun c_99 => ?_)
                  · refine st_aload_n (q := 105) dX7_meet_104 rfl rfl rfl ?_
                    refine st_sipush (q := 108) dX7_meet_105 rfl sp_284 ?_
                    refine st_aload_n (q := 109) dX7_meet_108 rfl rfl rfl ?_
                    refine st_sipush (q := 112) dX7_meet_109 rfl sp_284 ?_
                    refine sp_V1 (q := 115) (M' := mX7_riseOn) dX7_meet_112 rfl ok_X7_riseOn mk_X7_riseOn ml_X7_194 ⟨Nat.le_of_ble_eq_true rfl, Nat.le_of_ble_eq_true rfl⟩ rfl (Nat.le_of_ble_eq_true rfl) (g_rv hM rfl) ⟨rfl, rfl⟩ (c_X7_riseOn hM (p := 284) (by decide) hR.ed (by omega)) ?_
                    refine sm_V2 (q := 118) (M' := mX7_dayOn) dX7_meet_115 rfl ok_X7_dayOn mk_X7_dayOn ml_X7_197 ⟨Nat.le_of_ble_eq_true rfl, Nat.le_of_ble_eq_true rfl⟩ rfl (Nat.le_of_ble_eq_true rfl) (g_rv hM rfl) ⟨rfl, rfl⟩ (c_dayT hM hG hR) ?_
                    intro _ n w h9 _
                    obtain ⟨f, rfl, rfl, hM, hA_, hR, hF_⟩ := h9
                    replace hG := hG.qa hA_
                    replace hA := hA.tr hA_
                    replace hF := Fr.tr hF hF_
                    refine st_iinc (q := 121) (L' := [_, _, _, _, _]) dX7_meet_118 rfl rfl (nI_succ _).symm (Nat.le_of_ble_eq_true rfl) rfl ?_
                    refine st_goto (q := 33) dX7_meet_121 rfl ?_
                    first
                      | exact absurd rfl c_76
                      | exact absurd c_76 (by decide)
                      | (refine ih (i + 1) (by omega) w S f _ hM hA hG hF hR ?_; rw [← hs, srF, if_neg (by rw [hmp, decide_eq_false c_50]; simp)])
                      | (refine ih (i + 1) (by omega) w S f _ hM hA hG hF hR ?_; rw [← hs, srF, if_neg (by rw [hmp, decide_eq_false c_64]; simp)])
                      | (refine ih (i + 1) (by omega) w S f _ hM hA hG hF hR ?_; rw [← hs, srF, if_neg (by rw [hmp, decide_eq_false c_99]; simp)])
                  · refine st_iload_n (q := 103) dX7_meet_102 rfl rfl rfl ?_
                    refine st_ireturn dX7_meet_103 rfl ?_
                    first
                      | exact absurd rfl c_76
                      | exact ⟨by rw [← hs, srF, if_pos (by rw [hmp, decide_eq_true c_50, decide_eq_true c_64, decide_eq_true c_99]; rfl)], rfl, ⟨_, _, hM, hA⟩, hF⟩
        exact lp 61 0 (by omega) w S f _ hM hA hG hF hR (by rw [meetS, if_pos h1, if_pos h2, if_neg c_18])
      · refine st_iconst (q := 22) dX7_meet_21 rfl ic_m1 ?_
        refine st_ireturn dX7_meet_22 rfl ?_
        first
          | exact ⟨by rw [meetS, if_neg (by rw [← hG.2.1, zI_0.mp c_5]; decide)], rfl, ⟨_, _, hM, hA⟩, hF⟩
          | exact ⟨by rw [meetS, if_pos (by rw [← hG.2.1]; exact zI_1.mp c_5), if_neg (by rw [← hG.2.1, zI_0.mp c_13]; decide)], rfl, ⟨_, _, hM, hA⟩, hF⟩
          | exact ⟨by rw [meetS, if_pos (by rw [← hG.2.1]; exact zI_1.mp c_5), if_pos (by rw [← hG.2.1]; exact zI_1.mp c_13), if_pos c_18], rfl, ⟨_, _, hM, hA⟩, hF⟩
set_option maxRecDepth 100000 in
set_option maxHeartbeats 4000000 in
theorem c_X7_high {E : ev_E} {n : Nat} {w : ev_W} {S0 S : gT} {f0 f : Nat → Int32} {w0 : ev_W} (hF : Fr 70 82 w0 w) (hM : MR S f 70 n w) (hA : QA S0 S f0 f) {T : gT} {nh nt dd : Nat} (hG : GQ S f T nh nt dd) {x y : Int32} : Ct E mX7_high [.ref 70, .int x, .int y] n w (ev_mr (highS T nh nt dd x y) n w0 (QR S0 f0 n)) := by
  refine Ct.of 2 (by decide) (Nat.le_of_ble_eq_true rfl) rfl ?_
  have hd9 := hG.2.2.2
  refine st_aload_n (q := 1) dX7_high_0 rfl rfl rfl ?_
  refine st_iload_n (q := 2) dX7_high_1 rfl rfl rfl ?_
  refine sp_V1 (q := 5) (M' := mX7_isHouse) dX7_high_2 rfl ok_X7_isHouse mk_X7_isHouse ml_X7_167 ⟨Nat.le_of_ble_eq_true rfl, Nat.le_of_ble_eq_true rfl⟩ rfl (Nat.le_of_ble_eq_true rfl) (g_rv hM rfl) ⟨rfl, rfl⟩ (c_X7_isHouse hM) ?_
  refine st_if_eq (q := 8) (tgt := 20) dX7_high_5 rfl rfl (fun c_5 => ?_) (fun c_5 => ?_)
  · refine st_iconst (q := 21) dX7_high_20 rfl ic_m1 ?_
    refine st_ireturn dX7_high_21 rfl ?_
    first
      | exact ⟨by rw [highS, if_neg (by rw [← hG.2.1, zI_0.mp c_5]; decide)], rfl, ⟨_, _, hM, hA⟩, hF⟩
      | exact ⟨by rw [highS, if_pos (by rw [← hG.2.1]; exact zI_1.mp c_5), if_neg (by rw [zI_0.mp c_17]; decide)], rfl, ⟨_, _, hM, hA⟩, hF⟩
  · refine st_iload_n (q := 9) dX7_high_8 rfl rfl rfl ?_
    refine st_i2l (q := 10) dX7_high_9 rfl ?_
    refine st_lconst (q := 11) dX7_high_10 rfl lc_0 ?_
    refine st_ldc2 (q := 14) dX7_high_11 rfl cn_X7_206 ?_
    refine sp_S3 (q := 17) (M' := mX7_in) dX7_high_14 rfl ok_X7_in mk_X7_in ml_X7_46 ⟨Nat.le_of_ble_eq_true rfl, Nat.le_of_ble_eq_true rfl⟩ rfl (Nat.le_of_ble_eq_true rfl) ⟨rfl, rfl⟩ (c_X7_inI (a := 0) (c := 60) (by decide) (by decide)) ?_
    refine st_if_ne (q := 20) (tgt := 22) dX7_high_17 rfl rfl (fun c_17 => ?_) (fun c_17 => ?_)
    · have hN9 := hG.1.1.hnh
      obtain ⟨j, hj, rfl⟩ := inI_ix (by rw [← hG.2.1]; exact zI_1.mp c_5) (by omega)
      have h1 : inI (nI j) 0 (nI nh - 1) = true := by rw [← hG.2.1]; exact zI_1.mp c_5
      have hjc : (nI j).toNatClampNeg = j := nI_clamp (by omega)
      obtain ⟨m, hm, rfl⟩ := inI_k (k := 60) (zI_1.mp c_17) (by decide)
      have h60 : inI (nI m) 0 60 = true := zI_1.mp c_17
      have hmc : (nI m).toNatClampNeg = m := nI_clamp (by omega)
      refine st_aload_n (q := 23) dX7_high_22 rfl rfl rfl ?_
      refine st_iconst (q := 24) dX7_high_23 rfl ic_0 ?_
      refine st_iload_n (q := 25) dX7_high_24 rfl rfl rfl ?_
      refine sp_V2 (q := 28) (M' := mX7_ofHouse) dX7_high_25 rfl ok_X7_ofHouse mk_X7_ofHouse ml_X7_173 ⟨Nat.le_of_ble_eq_true rfl, Nat.le_of_ble_eq_true rfl⟩ rfl (Nat.le_of_ble_eq_true rfl) (g_rv hM rfl) ⟨rfl, rfl⟩ (c_X7_ofHouse hM (p := 0) (by decide) hG.2.2.1 hG.1.1.hnt) ?_
      refine st_aload_n (q := 29) dX7_high_28 rfl rfl rfl ?_
      refine st_iconst (q := 30) dX7_high_29 rfl ic_0 ?_
      refine st_iconst (q := 31) dX7_high_30 rfl ic_2 ?_
      refine sp_V2 (q := 34) (M' := mX7_thoseOn) dX7_high_31 rfl ok_X7_thoseOn mk_X7_thoseOn ml_X7_164 ⟨Nat.le_of_ble_eq_true rfl, Nat.le_of_ble_eq_true rfl⟩ rfl (Nat.le_of_ble_eq_true rfl) (g_rv hM rfl) ⟨rfl, rfl⟩ (c_X7_thoseOn hM (p := 0) (by decide) hG.2.2.1 hG.1.1.hnt) ?_
      refine st_iconst (q := 35) dX7_high_34 rfl ic_m1 ?_
      refine st_ixor (q := 36) dX7_high_35 rfl ?_
      refine st_iand (q := 37) dX7_high_36 rfl ?_
      rw [hG.1.1.oh _ nt (Nat.le_refl _), hG.1.1.th2]
      refine st_istore_n (q := 38) (L' := [_, _, _, _, _]) dX7_high_37 rfl rfl (Nat.le_of_ble_eq_true rfl) rfl ?_
      refine st_iconst (q := 39) dX7_high_38 rfl ic_0 ?_
      refine st_istore (q := 41) (L' := [_, _, _, _, _]) dX7_high_39 rfl (Nat.le_of_ble_eq_true rfl) rfl ?_
      have lp : ∀ (k i : Nat), i + k = 21 → ∀ (w1 : ev_W) (S1 : gT) (f1 : Nat → Int32), MR S1 f1 70 n w1 → QA S0 S1 f0 f1 → GQ S1 f1 T nh nt dd → Fr 70 82 w0 w1 → srF (fun r => lnF (tup T 1 j (nI r)) (tkI T (nI j) nt) dd nh nt m) i k = highS T nh nt dd (nI j) (nI m) → Ev E mX7_high 41 [some (.ref 70), some (.int (nI j)), some (.int (nI m)), some (.int (tkI T (nI j) nt)), some (.int (nI i))] [] n w1 (0, 0) (ev_mr (highS T nh nt dd (nI j) (nI m)) n w0 (QR S0 f0 n)) := by
        clear hM hA hG hF
        intro k
        induction k with
        | zero =>
          intro i hi w S f hM hA hG hF hs
          obtain rfl : 21 = i := by omega
          refine st_iload (q := 43) dX7_high_41 rfl rfl ?_
          refine st_bipush (q := 45) dX7_high_43 rfl bp_20 ?_
          refine st_icmp_gt (q := 48) (tgt := 99) dX7_high_45 rfl rfl (fun c_45 => ?_) (fun c_45 => False.elim (c_45 (by decide)))
          refine st_bipush (q := 101) dX7_high_99 rfl bp_m4 ?_
          refine st_ireturn dX7_high_101 rfl ?_
          exact ⟨by rw [← hs]; rfl, rfl, ⟨_, _, hM, hA⟩, hF⟩
        | succ k ih =>
          intro i hi w S f hM hA hG hF hs
          refine st_iload (q := 43) dX7_high_41 rfl rfl ?_
          refine st_bipush (q := 45) dX7_high_43 rfl bp_20 ?_
          refine st_icmp_gt (q := 48) (tgt := 99) dX7_high_45 rfl rfl (fun c_45 => False.elim (absurd c_45 (nI_nlt (a := 20) (b := i) (by omega) (by omega)))) (fun c_45 => ?_)
          refine st_aload_n (q := 49) dX7_high_48 rfl rfl rfl ?_
          refine st_iconst (q := 50) dX7_high_49 rfl ic_0 ?_
          refine st_sipush (q := 53) dX7_high_50 rfl sp_355 ?_
          refine sm_V2 (q := 56) (M' := mX7_copies) dX7_high_53 rfl ok_X7_copies mk_X7_copies ml_X7_200 ⟨Nat.le_of_ble_eq_true rfl, Nat.le_of_ble_eq_true rfl⟩ rfl (Nat.le_of_ble_eq_true rfl) (g_rv hM rfl) ⟨rfl, rfl⟩ (c_copyT hM hG (c := 355) (by decide) (by decide)) ?_
          intro _ n w h9 _
          obtain ⟨f, rfl, rfl, hM, hA_, hR, hF_⟩ := h9
          replace hG := hG.qa hA_
          replace hA := hA.tr hA_
          replace hF := Fr.tr hF hF_
          refine st_aload_n (q := 57) dX7_high_56 rfl rfl rfl ?_
          refine g_getA (q := 60) dX7_high_57 rfl fl_X7_7.g hM rfl ?_
          refine st_sipush (q := 63) dX7_high_60 rfl sp_355 ?_
          refine st_iload_n (q := 64) dX7_high_63 rfl rfl rfl ?_
          refine st_iadd (q := 65) dX7_high_64 rfl ?_
          refine st_iload (q := 67) dX7_high_65 rfl rfl ?_
          refine m_sst (q := 68) dX7_high_67 rfl hM (by exact ix2 (a := 355) (b := j) (by omega) (by decide)) (fun w hM hF_ => ?_)
          replace hF := Fr.tr hF hF_
          replace hR := hR.set1 (k := j) hj (v := nI i) (rg_of (m := 20) (by omega) (by decide))
          replace hG := hG.qa (QA.up (S := S) (j := 355 + j) (v := nI i) (by omega))
          replace hA := hA.tr (QA.up (S := S) (j := 355 + j) (v := nI i) (by omega))
          refine st_aload_n (q := 69) dX7_high_68 rfl rfl rfl ?_
          refine st_sipush (q := 72) dX7_high_69 rfl sp_355 ?_
          refine st_iload_n (q := 73) dX7_high_72 rfl rfl rfl ?_
          refine sm_V2 (q := 76) (M' := mX7_daysGo) dX7_high_73 rfl ok_X7_daysGo mk_X7_daysGo ml_X7_208 ⟨Nat.le_of_ble_eq_true rfl, Nat.le_of_ble_eq_true rfl⟩ rfl (Nat.le_of_ble_eq_true rfl) (g_rv hM rfl) ⟨rfl, rfl⟩ (c_goT hM hG (p := 355) (by decide) (by decide) hR (m := m) (by omega)) ?_
          intro _ n w h9 _
          obtain ⟨S, f, rfl, rfl, hM, hA_, hR, h20, hF_⟩ := h9
          replace hG := hG.qa hA_
          replace hA := hA.tr hA_
          replace hF := Fr.tr hF hF_
          refine st_pop (q := 77) dX7_high_76 rfl rfl ?_
          refine st_aload_n (q := 78) dX7_high_77 rfl rfl rfl ?_
          refine st_sipush (q := 81) dX7_high_78 rfl sp_284 ?_
          refine st_iconst (q := 82) dX7_high_81 rfl ic_2 ?_
          refine sp_V2 (q := 85) (M' := mX7_thoseOn) dX7_high_82 rfl ok_X7_thoseOn mk_X7_thoseOn ml_X7_164 ⟨Nat.le_of_ble_eq_true rfl, Nat.le_of_ble_eq_true rfl⟩ rfl (Nat.le_of_ble_eq_true rfl) (g_rv hM rfl) ⟨rfl, rfl⟩ (c_X7_thoseOn hM (p := 284) (by decide) hG.2.2.1 hG.1.1.hnt) ?_
          rw [hR.1.th2]
          have hln := ln_eq (T := tup T 1 j (nI i)) (tk := tkI T (nI j) nt) (dd := dd) (nh := nh) (nt := nt) (m := m) (by rw [tup_n (by decide)]; exact tk_0)
          refine st_iload_n (q := 86) dX7_high_85 rfl rfl rfl ?_
          refine st_iand (q := 87) dX7_high_86 rfl ?_
          refine st_if_ne (q := 90) (tgt := 93) dX7_high_87 rfl rfl (fun c_87 => ?_) (fun c_87 => ?_)
          · refine st_iinc (q := 96) (L' := [_, _, _, _, _]) dX7_high_93 rfl rfl (nI_succ _).symm (Nat.le_of_ble_eq_true rfl) rfl ?_
            refine st_goto (q := 41) dX7_high_96 rfl ?_
            refine ih (i + 1) (by omega) w S f hM hA hG hF ?_
            rw [← hs, srF, if_neg (by rw [hln, decide_eq_false c_87]; decide)]
          · refine st_iload (q := 92) dX7_high_90 rfl rfl ?_
            refine st_ireturn dX7_high_92 rfl ?_
            exact ⟨by rw [← hs, srF, if_pos (by rw [hln]; exact decide_eq_true c_87)], rfl, ⟨_, _, hM, hA⟩, hF⟩
      exact lp 21 0 (by omega) w S f hM hA hG hF (by rw [highS, if_pos h1, if_pos h60, hjc, hmc])
    · refine st_iconst (q := 21) dX7_high_20 rfl ic_m1 ?_
      refine st_ireturn dX7_high_21 rfl ?_
      first
        | exact ⟨by rw [highS, if_neg (by rw [← hG.2.1, zI_0.mp c_5]; decide)], rfl, ⟨_, _, hM, hA⟩, hF⟩
        | exact ⟨by rw [highS, if_pos (by rw [← hG.2.1]; exact zI_1.mp c_5), if_neg (by rw [zI_0.mp c_17]; decide)], rfl, ⟨_, _, hM, hA⟩, hF⟩
def stM (f : Nat → Int32) (may : Int32) : Nat → (Nat → Int32)
  | 0 => f
  | i + 1 => upd (stM f may i) (407 + i) (if (may >>> (nI i &&& 31)) &&& 1 = 1 then 1 else stM f may i (407 + i))
theorem and1_1 (y : Int32) : y &&& 1 = 1 ↔ bt y 0 = true := by
  constructor
  · intro h
    have e : bt (y &&& 1) 0 = bt 1 0 := by rw [h]
    rw [b_and, bt_1 0 (by decide)] at e
    simpa using e
  · intro h
    refine b_ext (fun i hi => ?_)
    rw [b_and, bt_1 i hi]
    by_cases e : i = 0
    · subst e; rw [h]; rfl
    · simp [e]
theorem sh1_1 (x : Int32) {k : Nat} (hk : k < 32) : (x >>> (nI k &&& 31)) &&& 1 = 1 ↔ bt x k = true := by
  rw [and1_1, b_sshr k hk x (by decide), if_pos (by omega), Nat.add_zero]
theorem stM_at {f : Nat → Int32} {may : Int32} : ∀ i, i ≤ 8 → ∀ j, stM f may i j = if 407 ≤ j ∧ j < 407 + i ∧ bt may (j - 407) = true then 1 else f j
  | 0, _, j => by rw [stM, if_neg (by omega)]
  | i + 1, hi, j => by
    rw [stM]
    by_cases e : j = 407 + i
    · subst e
      have e0 : stM f may i (407 + i) = f (407 + i) := by rw [stM_at i (by omega), if_neg (by omega)]
      rw [pk_us, e0, show 407 + i - 407 = i from by omega]
      by_cases b : bt may i = true
      · rw [if_pos ((sh1_1 may (by omega)).mpr b), if_pos ⟨by omega, by omega, b⟩]
      · rw [if_neg (fun z => b ((sh1_1 may (by omega)).mp z)), if_neg (fun z => b z.2.2)]
    · rw [pk_un e, stM_at i (by omega) j]
      by_cases c : 407 ≤ j ∧ j < 407 + i ∧ bt may (j - 407) = true
      · rw [if_pos c, if_pos ⟨c.1, by omega, c.2.2⟩]
      · rw [if_neg c, if_neg (fun z => c ⟨z.1, by omega, z.2.2⟩)]
theorem RQ.stow8 {T : gT} {f : Nat → Int32} {nh nt dd : Nat} {x : Int32} (h : RQ T f 355 nh nt dd) : RQ (tup T 11 0 (T 11 0 ||| tkI T x nt)) (stM f (tkI T x nt) nt) 355 nh nt dd := by
  have hnt := h.1.hnt
  have hb : ∀ j, j < 32 → bt (tkI T x nt) j = (decide (j < nt) && decide (T 8 j = x) && !bt (T 12 0) j) := fun j hj => by
    rw [tkI, b_and, bt_not _ hj, ths_bt x nt hnt j hj]
  have hs : ∀ j, ¬ (407 ≤ j ∧ j < 415) → stM f (tkI T x nt) nt j = f j := fun j hj => by rw [stM_at nt hnt, if_neg (by omega)]
  have hi : ∀ k, k < nt → stM f (tkI T x nt) nt (355 + 52 + k) = if bt (tkI T x nt) k = true then 1 else f (355 + 52 + k) := fun k hk => by
    rw [stM_at nt hnt, show 355 + 52 + k - 407 = k from by omega]
    by_cases b : bt (tkI T x nt) k = true
    · rw [if_pos ⟨by omega, by omega, b⟩, if_pos b]
    · rw [if_neg (fun z => b z.2.2), if_neg b]
  refine ⟨h.1.is_chg (fun g h1 _ _ => tup_n h1) (fun j h1 _ => hs j (by omega)) (fun i hi9 => ?_) (fun j hj => ?_) (fun j hj => ?_) ?_, ?_, ?_, ?_⟩
  · rw [hi i hi9]
    split
    · exact Or.inr (Or.inl rfl)
    · exact (h.1.is hi9).2.2.2.2.2.2.2.2
  · rw [tup_s, pk_us, b_or, h.1.b11 j hj]
    by_cases z : j < nt
    · dsimp only
      rw [hi j z]
      by_cases b : bt (tkI T x nt) j = true
      · rw [if_pos b, b]; simp [z]
      · rw [if_neg b]; simp [z, b]
    · rw [hb j hj]; simp [z]
  · rw [tup_n (by decide), h.1.b12 j hj]
    by_cases z : j < nt
    · dsimp only
      rw [hi j z]
      by_cases b : bt (tkI T x nt) j = true
      · rw [if_pos b]
        have b' := b
        rw [hb j hj, h.1.b12 j hj] at b'
        simp only [Bool.and_eq_true, Bool.not_eq_true', Bool.and_eq_false_imp, decide_eq_true_eq, decide_eq_false_iff_not] at b'
        have := b'.2 z
        rw [decide_eq_false this]; rfl
      · rw [if_neg b]
    · simp [z]
  · rw [tup_n (by decide), hs _ (by omega)]; exact h.1.so
  · rw [tup_n (by decide), hs _ (by omega)]; exact h.2.1
  · rw [tup_n (by decide)]; exact h.2.2.1
  · rw [tup_n (by decide)]; exact h.2.2.2
set_option maxRecDepth 100000 in
set_option maxHeartbeats 4000000 in
theorem c_X7_need {E : ev_E} {n : Nat} {w : ev_W} {S0 S : gT} {f0 f : Nat → Int32} {w0 : ev_W} (hF : Fr 70 82 w0 w) (hM : MR S f 70 n w) (hA : QA S0 S f0 f) {T : gT} {nh nt dd : Nat} (hG : GQ S f T nh nt dd) {x y : Int32} : Ct E mX7_need [.ref 70, .int x, .int y] n w (ev_mr (needS T nh nt dd x y) n w0 (QR S0 f0 n)) := by
  refine Ct.of 3 (by decide) (Nat.le_of_ble_eq_true rfl) rfl ?_
  have hd9 := hG.2.2.2
  have hN9t := hG.1.1.hnt
  refine st_aload_n (q := 1) dX7_need_0 rfl rfl rfl ?_
  refine st_iload_n (q := 2) dX7_need_1 rfl rfl rfl ?_
  refine sp_V1 (q := 5) (M' := mX7_isHouse) dX7_need_2 rfl ok_X7_isHouse mk_X7_isHouse ml_X7_167 ⟨Nat.le_of_ble_eq_true rfl, Nat.le_of_ble_eq_true rfl⟩ rfl (Nat.le_of_ble_eq_true rfl) (g_rv hM rfl) ⟨rfl, rfl⟩ (c_X7_isHouse hM) ?_
  refine st_if_eq (q := 8) (tgt := 20) dX7_need_5 rfl rfl (fun c_5 => ?_) (fun c_5 => ?_)
  · refine st_iconst (q := 21) dX7_need_20 rfl ic_m1 ?_
    refine st_ireturn dX7_need_21 rfl ?_
    first
      | exact ⟨by rw [needS, if_neg (by rw [← hG.2.1, zI_0.mp c_5]; decide)], rfl, ⟨_, _, hM, hA⟩, hF⟩
      | exact ⟨by rw [needS, if_pos (by rw [← hG.2.1]; exact zI_1.mp c_5), if_neg (by rw [zI_0.mp c_17]; decide)], rfl, ⟨_, _, hM, hA⟩, hF⟩
  · refine st_iload_n (q := 9) dX7_need_8 rfl rfl rfl ?_
    refine st_i2l (q := 10) dX7_need_9 rfl ?_
    refine st_lconst (q := 11) dX7_need_10 rfl lc_0 ?_
    refine st_ldc2 (q := 14) dX7_need_11 rfl cn_X7_206 ?_
    refine sp_S3 (q := 17) (M' := mX7_in) dX7_need_14 rfl ok_X7_in mk_X7_in ml_X7_46 ⟨Nat.le_of_ble_eq_true rfl, Nat.le_of_ble_eq_true rfl⟩ rfl (Nat.le_of_ble_eq_true rfl) ⟨rfl, rfl⟩ (c_X7_inI (a := 0) (c := 60) (by decide) (by decide)) ?_
    refine st_if_ne (q := 20) (tgt := 22) dX7_need_17 rfl rfl (fun c_17 => ?_) (fun c_17 => ?_)
    · have hN9 := hG.1.1.hnh
      obtain ⟨j, hj, rfl⟩ := inI_ix (by rw [← hG.2.1]; exact zI_1.mp c_5) (by omega)
      have h1 : inI (nI j) 0 (nI nh - 1) = true := by rw [← hG.2.1]; exact zI_1.mp c_5
      have hjc : (nI j).toNatClampNeg = j := nI_clamp (by omega)
      obtain ⟨m, hm, rfl⟩ := inI_k (k := 60) (zI_1.mp c_17) (by decide)
      have h60 : inI (nI m) 0 60 = true := zI_1.mp c_17
      have hmc : (nI m).toNatClampNeg = m := nI_clamp (by omega)
      refine st_aload_n (q := 23) dX7_need_22 rfl rfl rfl ?_
      refine st_iconst (q := 24) dX7_need_23 rfl ic_0 ?_
      refine st_iload_n (q := 25) dX7_need_24 rfl rfl rfl ?_
      refine sp_V2 (q := 28) (M' := mX7_ofHouse) dX7_need_25 rfl ok_X7_ofHouse mk_X7_ofHouse ml_X7_173 ⟨Nat.le_of_ble_eq_true rfl, Nat.le_of_ble_eq_true rfl⟩ rfl (Nat.le_of_ble_eq_true rfl) (g_rv hM rfl) ⟨rfl, rfl⟩ (c_X7_ofHouse hM (p := 0) (by decide) hG.2.2.1 hG.1.1.hnt) ?_
      refine st_aload_n (q := 29) dX7_need_28 rfl rfl rfl ?_
      refine st_iconst (q := 30) dX7_need_29 rfl ic_0 ?_
      refine st_iconst (q := 31) dX7_need_30 rfl ic_2 ?_
      refine sp_V2 (q := 34) (M' := mX7_thoseOn) dX7_need_31 rfl ok_X7_thoseOn mk_X7_thoseOn ml_X7_164 ⟨Nat.le_of_ble_eq_true rfl, Nat.le_of_ble_eq_true rfl⟩ rfl (Nat.le_of_ble_eq_true rfl) (g_rv hM rfl) ⟨rfl, rfl⟩ (c_X7_thoseOn hM (p := 0) (by decide) hG.2.2.1 hG.1.1.hnt) ?_
      refine st_iconst (q := 35) dX7_need_34 rfl ic_m1 ?_
      refine st_ixor (q := 36) dX7_need_35 rfl ?_
      refine st_iand (q := 37) dX7_need_36 rfl ?_
      rw [hG.1.1.oh _ nt (Nat.le_refl _), hG.1.1.th2]
      refine st_istore_n (q := 38) (L' := [_, _, _, _, _, _]) dX7_need_37 rfl rfl (Nat.le_of_ble_eq_true rfl) rfl ?_
      refine st_iconst (q := 39) dX7_need_38 rfl ic_0 ?_
      refine st_istore (q := 41) (L' := [_, _, _, _, _, _]) dX7_need_39 rfl (Nat.le_of_ble_eq_true rfl) rfl ?_
      have lp : ∀ (k i : Nat), i + k = 41 → ∀ (w1 : ev_W) (S1 : gT) (f1 : Nat → Int32) (lq : Option Value), MR S1 f1 70 n w1 → QA S0 S1 f0 f1 → GQ S1 f1 T nh nt dd → Fr 70 82 w0 w1 → srF (fun r => lnF (needT T nt (nI j) r) (tkI T (nI j) nt) dd nh nt m) i k = needS T nh nt dd (nI j) (nI m) → Ev E mX7_need 41 [some (.ref 70), some (.int (nI j)), some (.int (nI m)), some (.int (tkI T (nI j) nt)), some (.int (nI i)), lq] [] n w1 (0, 0) (ev_mr (needS T nh nt dd (nI j) (nI m)) n w0 (QR S0 f0 n)) := by
        clear hM hA hG hF
        intro k
        induction k with
        | zero =>
          intro i hi w S f lq hM hA hG hF hs
          obtain rfl : 41 = i := by omega
          refine st_iload (q := 43) dX7_need_41 rfl rfl ?_
          refine st_bipush (q := 45) dX7_need_43 rfl bp_40 ?_
          refine st_icmp_gt (q := 48) (tgt := 153) dX7_need_45 rfl rfl (fun c_45 => ?_) (fun c_45 => False.elim (c_45 (by decide)))
          refine st_bipush (q := 155) dX7_need_153 rfl bp_m4 ?_
          refine st_ireturn dX7_need_155 rfl ?_
          exact ⟨by rw [← hs]; rfl, rfl, ⟨_, _, hM, hA⟩, hF⟩
        | succ k ih =>
          intro i hi w S f lq hM hA hG hF hs
          refine st_iload (q := 43) dX7_need_41 rfl rfl ?_
          refine st_bipush (q := 45) dX7_need_43 rfl bp_40 ?_
          refine st_icmp_gt (q := 48) (tgt := 153) dX7_need_45 rfl rfl (fun c_45 => False.elim (absurd c_45 (nI_nlt (a := 40) (b := i) (by omega) (by omega)))) (fun c_45 => ?_)
          refine st_aload_n (q := 49) dX7_need_48 rfl rfl rfl ?_
          refine st_iconst (q := 50) dX7_need_49 rfl ic_0 ?_
          refine st_sipush (q := 53) dX7_need_50 rfl sp_355 ?_
          refine sm_V2 (q := 56) (M' := mX7_copies) dX7_need_53 rfl ok_X7_copies mk_X7_copies ml_X7_200 ⟨Nat.le_of_ble_eq_true rfl, Nat.le_of_ble_eq_true rfl⟩ rfl (Nat.le_of_ble_eq_true rfl) (g_rv hM rfl) ⟨rfl, rfl⟩ (c_copyT hM hG (c := 355) (by decide) (by decide)) ?_
          intro _ n w h9 _
          obtain ⟨f, rfl, rfl, hM, hA_, hR, hF_⟩ := h9
          replace hG := hG.qa hA_
          replace hA := hA.tr hA_
          replace hF := Fr.tr hF hF_
          refine st_aload_n (q := 57) dX7_need_56 rfl rfl rfl ?_
          refine g_getA (q := 60) dX7_need_57 rfl fl_X7_7.g hM rfl ?_
          refine st_sipush (q := 63) dX7_need_60 rfl sp_359 ?_
          refine st_iload_n (q := 64) dX7_need_63 rfl rfl rfl ?_
          refine st_iadd (q := 65) dX7_need_64 rfl ?_
          refine st_iload (q := 67) dX7_need_65 rfl rfl ?_
          refine m_sst (q := 68) dX7_need_67 rfl hM (by exact ix2 (a := 359) (b := j) (by omega) (by decide)) (fun w hM hF_ => ?_)
          replace hF := Fr.tr hF hF_
          replace hR := hR.set2 (k := j) hj (v := nI i) (rg_of (m := 40) (by omega) (by decide))
          replace hG := hG.qa (QA.up (S := S) (j := 359 + j) (v := nI i) (by omega))
          replace hA := hA.tr (QA.up (S := S) (j := 359 + j) (v := nI i) (by omega))
          obtain ⟨fx, hfx⟩ : ∃ fx, fx = upd f (359 + j) (nI i) := ⟨_, rfl⟩
          rw [← hfx] at hM hG hA
          replace hR : RQ (tup T 2 j (nI i)) fx 355 nh nt dd := by rw [hfx]; exact hR
          clear hfx
          have ht9 : tkI (tup T 2 j (nI i)) (nI j) nt = tkI T (nI j) nt := tkI_c rfl rfl
          have hln : lnF (needT T nt (nI j) i) (tkI T (nI j) nt) dd nh nt m = decide (dysT (tup (tup T 2 j (nI i)) 11 0 (tup T 2 j (nI i) 11 0 ||| tkI T (nI j) nt)) dd nh nt m 12 0 &&& tkI T (nI j) nt = 0) := by
            rw [ln_eq (T := needT T nt (nI j) i) (by rw [needT, tup_n (by decide), tup_n (by decide)]; exact tk_0), needT, hjc]
            rfl
          refine st_iconst (q := 69) dX7_need_68 rfl ic_0 ?_
          refine st_istore (q := 71) (L' := [_, _, _, _, _, _]) dX7_need_69 rfl (Nat.le_of_ble_eq_true rfl) rfl ?_
          have inn : ∀ (k2 r : Nat), r + k2 = nt → ∀ (w2 : ev_W), MR S (stM fx (tkI T (nI j) nt) r) 70 n w2 → Fr 70 82 w0 w2 → Ev E mX7_need 71 [some (.ref 70), some (.int (nI j)), some (.int (nI m)), some (.int (tkI T (nI j) nt)), some (.int (nI i)), some (.int (nI r))] [] n w2 (0, 0) (ev_mr (needS T nh nt dd (nI j) (nI m)) n w0 (QR S0 f0 n)) := by
            clear hM hF
            intro k2
            induction k2 with
            | zero =>
              intro r hi2 w hM hF
              obtain rfl : nt = r := by omega
              have hA_ : QA S S fx (stM fx (tkI T (nI j) nt) nt) := ⟨fun q hq => by rw [stM_at nt hN9t, if_neg (by omega)], fun _ _ _ => rfl⟩
              replace hG := hG.qa hA_
              replace hA := hA.tr hA_
              refine st_iload (q := 73) dX7_need_71 rfl rfl ?_
              refine st_aload_n (q := 74) dX7_need_73 rfl rfl rfl ?_
              refine m_get (q := 77) dX7_need_74 rfl fl_X7_139.g hM (by decide) rfl ?_
              refine st_icmp_ge (q := 80) (tgt := 122) dX7_need_77 rfl rfl (fun c_77 => ?_) (fun c_77 => False.elim (c_77 (by rw [hG.2.2.1]; exact Int32.le_refl _)))
              replace hR := hR.stow8 (x := nI j)
              rw [ht9] at hR
              refine st_aload_n (q := 123) dX7_need_122 rfl rfl rfl ?_
              refine st_sipush (q := 126) dX7_need_123 rfl sp_355 ?_
              refine st_iload_n (q := 127) dX7_need_126 rfl rfl rfl ?_
              refine sm_V2 (q := 130) (M' := mX7_daysGo) dX7_need_127 rfl ok_X7_daysGo mk_X7_daysGo ml_X7_208 ⟨Nat.le_of_ble_eq_true rfl, Nat.le_of_ble_eq_true rfl⟩ rfl (Nat.le_of_ble_eq_true rfl) (g_rv hM rfl) ⟨rfl, rfl⟩ (c_goT hM hG (p := 355) (by decide) (by decide) hR (m := m) (by omega)) ?_
              intro _ n w h9 _
              obtain ⟨S, f, rfl, rfl, hM, hA_, hR, h20, hF_⟩ := h9
              replace hG := hG.qa hA_
              replace hA := hA.tr hA_
              replace hF := Fr.tr hF hF_
              refine st_pop (q := 131) dX7_need_130 rfl rfl ?_
              refine st_aload_n (q := 132) dX7_need_131 rfl rfl rfl ?_
              refine st_sipush (q := 135) dX7_need_132 rfl sp_284 ?_
              refine st_iconst (q := 136) dX7_need_135 rfl ic_2 ?_
              refine sp_V2 (q := 139) (M' := mX7_thoseOn) dX7_need_136 rfl ok_X7_thoseOn mk_X7_thoseOn ml_X7_164 ⟨Nat.le_of_ble_eq_true rfl, Nat.le_of_ble_eq_true rfl⟩ rfl (Nat.le_of_ble_eq_true rfl) (g_rv hM rfl) ⟨rfl, rfl⟩ (c_X7_thoseOn hM (p := 284) (by decide) hG.2.2.1 hG.1.1.hnt) ?_
              rw [hR.1.th2]
              refine st_iload_n (q := 140) dX7_need_139 rfl rfl rfl ?_
              refine st_iand (q := 141) dX7_need_140 rfl ?_
              refine st_if_ne (q := 144) (tgt := 147) dX7_need_141 rfl rfl (fun c_141 => ?_) (fun c_141 => ?_)
              · refine st_iinc (q := 150) (L' := [_, _, _, _, _, _]) dX7_need_147 rfl rfl (nI_succ _).symm (Nat.le_of_ble_eq_true rfl) rfl ?_
                refine st_goto (q := 41) dX7_need_150 rfl ?_
                refine ih (i + 1) (by omega) w S f _ hM hA hG hF ?_
                rw [← hs, srF, if_neg (by rw [hln, decide_eq_false c_141]; decide)]
              · refine st_iload (q := 146) dX7_need_144 rfl rfl ?_
                refine st_ireturn dX7_need_146 rfl ?_
                exact ⟨by rw [← hs, srF, if_pos (by rw [hln]; exact decide_eq_true c_141)], rfl, ⟨_, _, hM, hA⟩, hF⟩
            | succ k2 ih2 =>
              intro r hi2 w hM hF
              refine st_iload (q := 73) dX7_need_71 rfl rfl ?_
              refine st_aload_n (q := 74) dX7_need_73 rfl rfl rfl ?_
              refine m_get (q := 77) dX7_need_74 rfl fl_X7_139.g hM (by decide) rfl ?_
              refine st_icmp_ge (q := 80) (tgt := 122) dX7_need_77 rfl rfl (fun c_77 => False.elim (absurd (by rw [← hG.2.2.1]; exact c_77) (nI_ge (a := r) (b := nt) (by omega) (by omega)))) (fun c_77 => ?_)
              refine st_aload_n (q := 81) dX7_need_80 rfl rfl rfl ?_
              refine g_getA (q := 84) dX7_need_81 rfl fl_X7_7.g hM rfl ?_
              refine st_sipush (q := 87) dX7_need_84 rfl sp_407 ?_
              refine st_iload (q := 89) dX7_need_87 rfl rfl ?_
              refine st_iadd (q := 90) dX7_need_89 rfl ?_
              refine st_iload_n (q := 91) dX7_need_90 rfl rfl rfl ?_
              refine st_iload (q := 93) dX7_need_91 rfl rfl ?_
              refine st_ishr (q := 94) dX7_need_93 rfl ?_
              refine st_iconst (q := 95) dX7_need_94 rfl ic_1 ?_
              refine st_iand (q := 96) dX7_need_95 rfl ?_
              refine st_iconst (q := 97) dX7_need_96 rfl ic_1 ?_
              refine st_icmp_ne (q := 100) (tgt := 104) dX7_need_97 rfl rfl (fun c_97 => ?_) (fun c_97 => ?_)
              · refine st_aload_n (q := 105) dX7_need_104 rfl rfl rfl ?_
                refine g_getA (q := 108) dX7_need_105 rfl fl_X7_7.g hM rfl ?_
                refine st_sipush (q := 111) dX7_need_108 rfl sp_407 ?_
                refine st_iload (q := 113) dX7_need_111 rfl rfl ?_
                refine st_iadd (q := 114) dX7_need_113 rfl ?_
                refine m_sld (q := 115) dX7_need_114 rfl hM (by exact ix2 (a := 407) (b := r) (by omega) (by decide)) ?_
                refine m_sst (q := 116) dX7_need_115 rfl hM (by exact ix2 (a := 407) (b := r) (by omega) (by decide)) (fun w hM hF_ => ?_)
                replace hF := Fr.tr hF hF_
                refine st_iinc (q := 119) (L' := [_, _, _, _, _, _]) dX7_need_116 rfl rfl (nI_succ _).symm (Nat.le_of_ble_eq_true rfl) rfl ?_
                refine st_goto (q := 71) dX7_need_119 rfl ?_
                first
                  | (refine ih2 (r + 1) (by omega) w ?_ hF; rw [stM, if_pos c_97]; exact hM)
                  | (refine ih2 (r + 1) (by omega) w ?_ hF; rw [stM, if_neg c_97]; exact hM)
              · refine st_iconst (q := 101) dX7_need_100 rfl ic_1 ?_
                refine st_goto (q := 115) dX7_need_101 rfl ?_
                refine m_sst (q := 116) dX7_need_115 rfl hM (by exact ix2 (a := 407) (b := r) (by omega) (by decide)) (fun w hM hF_ => ?_)
                replace hF := Fr.tr hF hF_
                refine st_iinc (q := 119) (L' := [_, _, _, _, _, _]) dX7_need_116 rfl rfl (nI_succ _).symm (Nat.le_of_ble_eq_true rfl) rfl ?_
                refine st_goto (q := 71) dX7_need_119 rfl ?_
                first
                  | (refine ih2 (r + 1) (by omega) w ?_ hF; rw [stM, if_pos c_97]; exact hM)
                  | (refine ih2 (r + 1) (by omega) w ?_ hF; rw [stM, if_neg c_97]; exact hM)
          exact inn nt 0 (by omega) w hM hF
      exact lp 41 0 (by omega) w S f _ hM hA hG hF (by rw [needS, if_pos h1, if_pos h60, hmc])
    · refine st_iconst (q := 21) dX7_need_20 rfl ic_m1 ?_
      refine st_ireturn dX7_need_21 rfl ?_
      first
        | exact ⟨by rw [needS, if_neg (by rw [← hG.2.1, zI_0.mp c_5]; decide)], rfl, ⟨_, _, hM, hA⟩, hF⟩
        | exact ⟨by rw [needS, if_pos (by rw [← hG.2.1]; exact zI_1.mp c_5), if_neg (by rw [zI_0.mp c_17]; decide)], rfl, ⟨_, _, hM, hA⟩, hF⟩
def lkM (s : Nat → Int32) (u : Int32) : Nat → Int32
  | 0 => 0
  | v + 1 => if s v ≤ u then nI v else lkM s u v
theorem lk_eq {s : Nat → Int32} {u : Int32} {l : Nat} (h : s l ≤ u) : ∀ k, lkM s u (l + k + 1) = lkF s u l k
  | 0 => by rw [lkM, lkF]; exact if_pos h
  | k + 1 => by rw [lkM, lkF, show l + (k + 1) = l + k + 1 from rfl, lk_eq h k]
theorem lk_sub {s : Nat → Int32} {u c : Int32} (hc : rg c 0 999) (hu : rg u 0 999) (hs : ∀ v, v < 4 → rg (s v) 0 999) : ∀ k, k ≤ 4 → lkM (fun v => s v - c) (u - c) k = lkM s u k
  | 0, _ => rfl
  | k + 1, hk => by
    rw [lkM, lkM, lk_sub hc hu hs k (by omega)]
    simp only [sub_le (hs k (by omega)) hu hc]
theorem tup_same {T : gT} {i j : Nat} : tup T i j (T i j) = T := by
  funext a
  unfold tup
  by_cases h : a = i
  · subst h
    rw [if_pos rfl]
    funext b
    by_cases e : b = j
    · subst e; rw [pk_us]
    · rw [pk_un e]
  · rw [if_neg h]
set_option maxRecDepth 100000 in
set_option maxHeartbeats 4000000 in
theorem c_X7_leak {E : ev_E} {n : Nat} {w : ev_W} {S0 S : gT} {f0 f : Nat → Int32} {w0 : ev_W} (hF : Fr 70 82 w0 w) (hM : MR S f 70 n w) (hA : QA S0 S f0 f) {T : gT} {nh nt dd : Nat} (hG : GQ S f T nh nt dd) {x y : Int32} : Ct E mX7_leak [.ref 70, .int x, .int y] n w (ev_mr (leakS T nh nt dd x y) n w0 (QR S0 f0 n)) := by
  refine Ct.of 3 (by decide) (Nat.le_of_ble_eq_true rfl) rfl ?_
  have hd9 := hG.2.2.2
  refine st_aload_n (q := 1) dX7_leak_0 rfl rfl rfl ?_
  refine st_iload_n (q := 2) dX7_leak_1 rfl rfl rfl ?_
  refine sp_V1 (q := 5) (M' := mX7_isHouse) dX7_leak_2 rfl ok_X7_isHouse mk_X7_isHouse ml_X7_167 ⟨Nat.le_of_ble_eq_true rfl, Nat.le_of_ble_eq_true rfl⟩ rfl (Nat.le_of_ble_eq_true rfl) (g_rv hM rfl) ⟨rfl, rfl⟩ (c_X7_isHouse hM) ?_
  refine st_if_eq (q := 8) (tgt := 20) dX7_leak_5 rfl rfl (fun c_5 => ?_) (fun c_5 => ?_)
  · refine st_iconst (q := 21) dX7_leak_20 rfl ic_m1 ?_
    refine st_ireturn dX7_leak_21 rfl ?_
    first
      | exact ⟨by rw [leakS, if_neg (by rw [← hG.2.1, zI_0.mp c_5]; decide)], rfl, ⟨_, _, hM, hA⟩, hF⟩
      | exact ⟨by rw [leakS, if_pos (by rw [← hG.2.1]; exact zI_1.mp c_5), if_neg (by rw [zI_0.mp c_17]; decide)], rfl, ⟨_, _, hM, hA⟩, hF⟩
  · refine st_iload_n (q := 9) dX7_leak_8 rfl rfl rfl ?_
    refine st_i2l (q := 10) dX7_leak_9 rfl ?_
    refine st_lconst (q := 11) dX7_leak_10 rfl lc_0 ?_
    refine st_ldc2 (q := 14) dX7_leak_11 rfl cn_X7_206 ?_
    refine sp_S3 (q := 17) (M' := mX7_in) dX7_leak_14 rfl ok_X7_in mk_X7_in ml_X7_46 ⟨Nat.le_of_ble_eq_true rfl, Nat.le_of_ble_eq_true rfl⟩ rfl (Nat.le_of_ble_eq_true rfl) ⟨rfl, rfl⟩ (c_X7_inI (a := 0) (c := 60) (by decide) (by decide)) ?_
    refine st_if_ne (q := 20) (tgt := 22) dX7_leak_17 rfl rfl (fun c_17 => ?_) (fun c_17 => ?_)
    · have hN9 := hG.1.1.hnh
      obtain ⟨j, hj, rfl⟩ := inI_ix (by rw [← hG.2.1]; exact zI_1.mp c_5) (by omega)
      have h1 : inI (nI j) 0 (nI nh - 1) = true := by rw [← hG.2.1]; exact zI_1.mp c_5
      have hjc : (nI j).toNatClampNeg = j := nI_clamp (by omega)
      obtain ⟨m, hm, rfl⟩ := inI_k (k := 60) (zI_1.mp c_17) (by decide)
      have h60 : inI (nI m) 0 60 = true := zI_1.mp c_17
      have hmc : (nI m).toNatClampNeg = m := nI_clamp (by omega)
      refine st_aload_n (q := 23) dX7_leak_22 rfl rfl rfl ?_
      refine st_iconst (q := 24) dX7_leak_23 rfl ic_0 ?_
      refine st_iload_n (q := 25) dX7_leak_24 rfl rfl rfl ?_
      refine sm_V2 (q := 28) (M' := mX7_daysGo) dX7_leak_25 rfl ok_X7_daysGo mk_X7_daysGo ml_X7_208 ⟨Nat.le_of_ble_eq_true rfl, Nat.le_of_ble_eq_true rfl⟩ rfl (Nat.le_of_ble_eq_true rfl) (g_rv hM rfl) ⟨rfl, rfl⟩ (c_goT hM hG (p := 0) (by decide) (by decide) hG.1 (m := m) (by omega)) ?_
      intro _ n w h9 _
      obtain ⟨S, f, rfl, rfl, hM, hA_, hR, h20, hF_⟩ := h9
      replace hG := hG.qa hA_
      replace hA := hA.tr hA_
      replace hF := Fr.tr hF hF_
      have hs0 : rg (dysT T dd nh nt m 17 0) 0 999 := hR.1.so.2
      refine st_istore_n (q := 29) (L' := [_, _, _, _, _, _]) dX7_leak_28 rfl rfl (Nat.le_of_ble_eq_true rfl) rfl ?_
      refine st_iconst (q := 30) dX7_leak_29 rfl ic_0 ?_
      refine st_istore (q := 32) (L' := [_, _, _, _, _, _]) dX7_leak_30 rfl (Nat.le_of_ble_eq_true rfl) rfl ?_
      refine st_iconst (q := 33) dX7_leak_32 rfl ic_0 ?_
      refine st_istore (q := 35) (L' := [_, _, _, _, _, _]) dX7_leak_33 rfl (Nat.le_of_ble_eq_true rfl) rfl ?_
      have lp : ∀ (k i : Nat), i + k = 4 → ∀ (w1 : ev_W) (S1 : gT) (f1 : Nat → Int32), MR S1 f1 70 n w1 → QA S0 S1 f0 f1 → GQ S1 f1 T nh nt dd → Fr 70 82 w0 w1 → (∀ v, v < i → rg (dysT (tup T 3 j (nI v)) dd nh nt m 17 0) 0 999) → Ev E mX7_leak 35 [some (.ref 70), some (.int (nI j)), some (.int (nI m)), some (.int (dysT T dd nh nt m 17 0 - T 17 0)), some (.int (lkM (fun v => dysT (tup T 3 j (nI v)) dd nh nt m 17 0 - T 17 0) (dysT T dd nh nt m 17 0 - T 17 0) i)), some (.int (nI i))] [] n w1 (0, 0) (ev_mr (leakS T nh nt dd (nI j) (nI m)) n w0 (QR S0 f0 n)) := by
        clear hM hA hG hF hR h20
        intro k
        induction k with
        | zero =>
          intro i hi w S f hM hA hG hF hrs
          obtain rfl : 4 = i := by omega
          refine st_iload (q := 37) dX7_leak_35 rfl rfl ?_
          refine st_iconst (q := 38) dX7_leak_37 rfl ic_3 ?_
          refine st_icmp_gt (q := 41) (tgt := 88) dX7_leak_38 rfl rfl (fun c_38 => ?_) (fun c_38 => False.elim (c_38 (by decide)))
          refine st_iload (q := 90) dX7_leak_88 rfl rfl ?_
          refine st_ireturn dX7_leak_90 rfl ?_
          refine ⟨?_, rfl, ⟨_, _, hM, hA⟩, hF⟩
          obtain ⟨l, hl3, el⟩ := rg_nI (m := 3) (hG.1.1.hs hj).2.2.2.2.2.2.1
          have hlc : (nI l).toNatClampNeg = l := nI_clamp (by omega)
          rw [leakS, if_pos h1, if_pos h60, hjc, hmc, el, hlc]
          have hc9 := hG.1.1.so.2
          rw [lk_sub (s := fun v => dysT (tup T 3 j (nI v)) dd nh nt m 17 0) hc9 hs0 hrs 4 (by omega)]
          have hle : (fun v => dysT (tup T 3 j (nI v)) dd nh nt m 17 0) l ≤ dysT T dd nh nt m 17 0 := by
            show dysT (tup T 3 j (nI l)) dd nh nt m 17 0 ≤ _
            rw [← el, tup_same]
            exact Int32.le_refl _
          have := lk_eq (s := fun v => dysT (tup T 3 j (nI v)) dd nh nt m 17 0) (l := l) hle (3 - l)
          rw [show l + (3 - l) + 1 = 4 from by omega] at this
          rw [this]
        | succ k ih =>
          intro i hi w S f hM hA hG hF hrs
          refine st_iload (q := 37) dX7_leak_35 rfl rfl ?_
          refine st_iconst (q := 38) dX7_leak_37 rfl ic_3 ?_
          refine st_icmp_gt (q := 41) (tgt := 88) dX7_leak_38 rfl rfl (fun c_38 => False.elim (absurd c_38 (nI_nlt (a := 3) (b := i) (by omega) (by omega)))) (fun c_38 => ?_)
          refine st_aload_n (q := 42) dX7_leak_41 rfl rfl rfl ?_
          refine st_iconst (q := 43) dX7_leak_42 rfl ic_0 ?_
          refine st_sipush (q := 46) dX7_leak_43 rfl sp_355 ?_
          refine sm_V2 (q := 49) (M' := mX7_copies) dX7_leak_46 rfl ok_X7_copies mk_X7_copies ml_X7_200 ⟨Nat.le_of_ble_eq_true rfl, Nat.le_of_ble_eq_true rfl⟩ rfl (Nat.le_of_ble_eq_true rfl) (g_rv hM rfl) ⟨rfl, rfl⟩ (c_copyT hM hG (c := 355) (by decide) (by decide)) ?_
          intro _ n w h9 _
          obtain ⟨f, rfl, rfl, hM, hA_, hR, hF_⟩ := h9
          replace hG := hG.qa hA_
          replace hA := hA.tr hA_
          replace hF := Fr.tr hF hF_
          refine st_aload_n (q := 50) dX7_leak_49 rfl rfl rfl ?_
          refine g_getA (q := 53) dX7_leak_50 rfl fl_X7_7.g hM rfl ?_
          refine st_sipush (q := 56) dX7_leak_53 rfl sp_363 ?_
          refine st_iload_n (q := 57) dX7_leak_56 rfl rfl rfl ?_
          refine st_iadd (q := 58) dX7_leak_57 rfl ?_
          refine st_iload (q := 60) dX7_leak_58 rfl rfl ?_
          refine m_sst (q := 61) dX7_leak_60 rfl hM (by exact ix2 (a := 363) (b := j) (by omega) (by decide)) (fun w hM hF_ => ?_)
          replace hF := Fr.tr hF hF_
          replace hR := hR.set3 (k := j) hj (v := nI i) (rg_of (m := 3) (by omega) (by decide))
          replace hG := hG.qa (QA.up (S := S) (j := 363 + j) (v := nI i) (by omega))
          replace hA := hA.tr (QA.up (S := S) (j := 363 + j) (v := nI i) (by omega))
          refine st_aload_n (q := 62) dX7_leak_61 rfl rfl rfl ?_
          refine st_sipush (q := 65) dX7_leak_62 rfl sp_355 ?_
          refine st_iload_n (q := 66) dX7_leak_65 rfl rfl rfl ?_
          refine sm_V2 (q := 69) (M' := mX7_daysGo) dX7_leak_66 rfl ok_X7_daysGo mk_X7_daysGo ml_X7_208 ⟨Nat.le_of_ble_eq_true rfl, Nat.le_of_ble_eq_true rfl⟩ rfl (Nat.le_of_ble_eq_true rfl) (g_rv hM rfl) ⟨rfl, rfl⟩ (c_goT hM hG (p := 355) (by decide) (by decide) hR (m := m) (by omega)) ?_
          intro _ n w h9 _
          obtain ⟨S, f, rfl, rfl, hM, hA_, hR, h20, hF_⟩ := h9
          replace hG := hG.qa hA_
          replace hA := hA.tr hA_
          replace hF := Fr.tr hF hF_
          have hrv : rg (dysT (tup T 3 j (nI i)) dd nh nt m 17 0) 0 999 := hR.1.so.2
          have hrs2 : ∀ v, v < i + 1 → rg (dysT (tup T 3 j (nI v)) dd nh nt m 17 0) 0 999 := fun v hv => by
            by_cases e : v = i
            · subst e; exact hrv
            · exact hrs v (by omega)
          refine st_iload_n (q := 70) dX7_leak_69 rfl rfl rfl ?_
          refine st_icmp_gt (q := 73) (tgt := 78) dX7_leak_70 rfl rfl (fun c_70 => ?_) (fun c_70 => ?_)
          · refine st_iload (q := 80) dX7_leak_78 rfl rfl ?_
            refine st_istore (q := 82) (L' := [_, _, _, _, _, _]) dX7_leak_80 rfl (Nat.le_of_ble_eq_true rfl) rfl ?_
            refine st_iinc (q := 85) (L' := [_, _, _, _, _, _]) dX7_leak_82 rfl rfl (nI_succ _).symm (Nat.le_of_ble_eq_true rfl) rfl ?_
            refine st_goto (q := 35) dX7_leak_85 rfl ?_
            have ih9 := ih (i + 1) (by omega) w S f hM hA hG hF hrs2
            first
              | (rw [show lkM (fun v => dysT (tup T 3 j (nI v)) dd nh nt m 17 0 - T 17 0) (dysT T dd nh nt m 17 0 - T 17 0) (i + 1) = nI i from if_pos (Int32.not_lt.mp c_70)] at ih9; exact ih9)
              | (rw [show lkM (fun v => dysT (tup T 3 j (nI v)) dd nh nt m 17 0 - T 17 0) (dysT T dd nh nt m 17 0 - T 17 0) (i + 1) = lkM (fun v => dysT (tup T 3 j (nI v)) dd nh nt m 17 0 - T 17 0) (dysT T dd nh nt m 17 0 - T 17 0) i from if_neg (Int32.not_le.mpr c_70)] at ih9; exact ih9)
          · refine st_iload (q := 75) dX7_leak_73 rfl rfl ?_
            refine st_goto (q := 80) dX7_leak_75 rfl ?_
            refine st_istore (q := 82) (L' := [_, _, _, _, _, _]) dX7_leak_80 rfl (Nat.le_of_ble_eq_true rfl) rfl ?_
            refine st_iinc (q := 85) (L' := [_, _, _, _, _, _]) dX7_leak_82 rfl rfl (nI_succ _).symm (Nat.le_of_ble_eq_true rfl) rfl ?_
            refine st_goto (q := 35) dX7_leak_85 rfl ?_
            have ih9 := ih (i + 1) (by omega) w S f hM hA hG hF hrs2
            first
              | (rw [show lkM (fun v => dysT (tup T 3 j (nI v)) dd nh nt m 17 0 - T 17 0) (dysT T dd nh nt m 17 0 - T 17 0) (i + 1) = nI i from if_pos (Int32.not_lt.mp c_70)] at ih9; exact ih9)
              | (rw [show lkM (fun v => dysT (tup T 3 j (nI v)) dd nh nt m 17 0 - T 17 0) (dysT T dd nh nt m 17 0 - T 17 0) (i + 1) = lkM (fun v => dysT (tup T 3 j (nI v)) dd nh nt m 17 0 - T 17 0) (dysT T dd nh nt m 17 0 - T 17 0) i from if_neg (Int32.not_le.mpr c_70)] at ih9; exact ih9)
      exact lp 4 0 (by omega) w S f hM hA hG hF (fun v hv => absurd hv (Nat.not_lt_zero v))
    · refine st_iconst (q := 21) dX7_leak_20 rfl ic_m1 ?_
      refine st_ireturn dX7_leak_21 rfl ?_
      first
        | exact ⟨by rw [leakS, if_neg (by rw [← hG.2.1, zI_0.mp c_5]; decide)], rfl, ⟨_, _, hM, hA⟩, hF⟩
        | exact ⟨by rw [leakS, if_pos (by rw [← hG.2.1]; exact zI_1.mp c_5), if_neg (by rw [zI_0.mp c_17]; decide)], rfl, ⟨_, _, hM, hA⟩, hF⟩
