abbrev ev_mr (r : Int32) (n : Nat) (w : ev_W) (G : ev_W → Prop) : Option Value → Nat → ev_W → Prop := fun a m u => a = some (.int r) ∧ m = n ∧ G u ∧ Fr 70 82 w u
def mfeS (S : gT) (tl : Nat) (x : Int32) : gT := if inI x 0 127 = true then (if tl < 160 then tup (tup S 9 tl x) 10 0 (nI (tl + 1)) else S) else S
def menS (S : gT) (tl : Nat) (x : Int32) : gT := if inI x 0 (nI tl) = true then tup S 10 0 x else S
set_option maxRecDepth 100000 in
set_option maxHeartbeats 4000000 in
theorem c_X7_feed {E : ev_E} {n : Nat} {w : ev_W} {S : gT} {f : Nat → Int32} {w0 : ev_W} (hF : Fr 70 82 w0 w) (hM : MR S f 70 n w) {tl : Nat} (et : S 10 0 = nI tl) (ht : tl ≤ 160) {x : Int32} : Ct E mX7_feed [.ref 70, .int x] n w (ev_mr (feedS tl x) n w0 (MR (mfeS S tl x) f 70 n)) := by
  refine Ct.of 0 (by decide) (Nat.le_of_ble_eq_true rfl) rfl ?_
  refine st_iload_n (q := 1) dX7_feed_0 rfl rfl rfl ?_
  refine st_i2l (q := 2) dX7_feed_1 rfl ?_
  refine st_lconst (q := 3) dX7_feed_2 rfl lc_0 ?_
  refine st_ldc2 (q := 6) dX7_feed_3 rfl cn_X7_44 ?_
  refine sp_S3 (q := 9) (M' := mX7_in) dX7_feed_6 rfl ok_X7_in mk_X7_in ml_X7_46 ⟨Nat.le_of_ble_eq_true rfl, Nat.le_of_ble_eq_true rfl⟩ rfl (Nat.le_of_ble_eq_true rfl) ⟨rfl, rfl⟩ (c_X7_inI (a := 0) (c := 127) (by decide) (by decide)) ?_
  refine st_if_ne (q := 12) (tgt := 14) dX7_feed_9 rfl rfl (fun c_9 => ?_) (fun c_9 => ?_)
  · refine st_aload_n (q := 15) dX7_feed_14 rfl rfl rfl ?_
    refine m_get (q := 18) dX7_feed_15 rfl fl_X7_50.g hM (by decide) rfl ?_
    refine st_sipush (q := 21) dX7_feed_18 rfl sp_160 ?_
    refine st_icmp_ne (q := 24) (tgt := 27) dX7_feed_21 rfl rfl (fun c_21 => ?_) (fun c_21 => ?_)
    · have h9 : tl < 160 := by
        rcases Nat.lt_or_ge tl 160 with z | z
        · exact z
        · exact absurd (by rw [et, show tl = 160 from by omega]; rfl) c_21
      refine st_aload_n (q := 28) dX7_feed_27 rfl rfl rfl ?_
      refine g_getA (q := 31) dX7_feed_28 rfl fl_X7_16.g hM rfl ?_
      refine st_aload_n (q := 32) dX7_feed_31 rfl rfl rfl ?_
      refine m_get (q := 35) dX7_feed_32 rfl fl_X7_50.g hM (by decide) rfl ?_
      refine st_iload_n (q := 36) dX7_feed_35 rfl rfl rfl ?_
      refine m_ast (q := 37) dX7_feed_36 rfl hM (i := 9) (by decide) rfl (by rw [et]; exact ev_ix_nI (j := tl) (by omega) (by decide)) (fun w hM hF_ => ?_)
      replace hF := Fr.tr hF hF_
      refine st_aload_n (q := 38) dX7_feed_37 rfl rfl rfl ?_
      refine st_dup (q := 39) dX7_feed_38 rfl rfl ?_
      refine m_get (q := 42) dX7_feed_39 rfl fl_X7_50.g hM (by decide) rfl ?_
      refine st_iconst (q := 43) dX7_feed_42 rfl ic_1 ?_
      refine st_iadd (q := 44) dX7_feed_43 rfl ?_
      refine m_put (q := 47) dX7_feed_44 rfl fl_X7_50 hM (by decide) rfl rfl rfl (fun w hM hF_ => ?_)
      replace hF := Fr.tr hF hF_
      refine st_aload_n (q := 48) dX7_feed_47 rfl rfl rfl ?_
      refine m_get (q := 51) dX7_feed_48 rfl fl_X7_50.g hM (by decide) rfl ?_
      refine st_ireturn dX7_feed_51 rfl ?_
      have e9 : tup (tup S 9 tl x) 10 0 (tup S 9 tl x 10 0 + 1) = tup (tup S 9 tl x) 10 0 (nI (tl + 1)) := by rw [tup_n (by decide), et, nI_succ]
      rw [e9] at hM
      exact ⟨by rw [feedS, if_pos (zI_1.mp c_9), if_pos h9]; show some (Value.int (tup S 9 tl x 10 0 + 1)) = _; rw [tup_n (by decide), et, nI_succ], rfl, by rw [mfeS, if_pos (zI_1.mp c_9), if_pos h9]; exact hM, hF⟩
    · have h9 : ¬ tl < 160 := fun z => nI_ne (a := tl) (b := 160) (by omega) (by decide) (by omega) (by rw [← et]; exact c_21)
      refine st_bipush (q := 26) dX7_feed_24 rfl bp_m3 ?_
      refine st_ireturn dX7_feed_26 rfl ?_
      exact ⟨by rw [feedS, if_pos (zI_1.mp c_9), if_neg h9], rfl, by rw [mfeS, if_pos (zI_1.mp c_9), if_neg h9]; exact hM, hF⟩
  · refine st_iconst (q := 13) dX7_feed_12 rfl ic_m1 ?_
    refine st_ireturn dX7_feed_13 rfl ?_
    exact ⟨by rw [feedS, if_neg (by rw [zI_0.mp c_9]; decide)], rfl, by rw [mfeS, if_neg (by rw [zI_0.mp c_9]; decide)]; exact hM, hF⟩
set_option maxRecDepth 100000 in
set_option maxHeartbeats 4000000 in
theorem c_X7_end {E : ev_E} {n : Nat} {w : ev_W} {S : gT} {f : Nat → Int32} {w0 : ev_W} (hF : Fr 70 82 w0 w) (hM : MR S f 70 n w) {tl : Nat} (et : S 10 0 = nI tl) (ht : tl ≤ 160) {x : Int32} : Ct E mX7_end [.ref 70, .int x] n w (ev_mr (endS tl x) n w0 (MR (menS S tl x) f 70 n)) := by
  refine Ct.of 1 (by decide) (Nat.le_of_ble_eq_true rfl) rfl ?_
  refine st_iload_n (q := 1) dX7_end_0 rfl rfl rfl ?_
  refine st_i2l (q := 2) dX7_end_1 rfl ?_
  refine st_lconst (q := 3) dX7_end_2 rfl lc_0 ?_
  refine st_aload_n (q := 4) dX7_end_3 rfl rfl rfl ?_
  refine m_get (q := 7) dX7_end_4 rfl fl_X7_50.g hM (by decide) rfl ?_
  refine st_i2l (q := 8) dX7_end_7 rfl ?_
  rw [et]
  refine sp_S3 (q := 11) (M' := mX7_in) dX7_end_8 rfl ok_X7_in mk_X7_in ml_X7_46 ⟨Nat.le_of_ble_eq_true rfl, Nat.le_of_ble_eq_true rfl⟩ rfl (Nat.le_of_ble_eq_true rfl) ⟨rfl, rfl⟩ (c_X7_inI (a := 0) (c := nI tl) (by decide) rfl) ?_
  refine st_if_ne (q := 14) (tgt := 16) dX7_end_11 rfl rfl (fun c_11 => ?_) (fun c_11 => ?_)
  · refine st_aload_n (q := 17) dX7_end_16 rfl rfl rfl ?_
    refine m_get (q := 20) dX7_end_17 rfl fl_X7_50.g hM (by decide) rfl ?_
    refine st_istore_n (q := 21) (L' := [_, _, _]) dX7_end_20 rfl rfl (Nat.le_of_ble_eq_true rfl) rfl ?_
    refine st_aload_n (q := 22) dX7_end_21 rfl rfl rfl ?_
    refine st_iload_n (q := 23) dX7_end_22 rfl rfl rfl ?_
    refine m_put (q := 26) dX7_end_23 rfl fl_X7_50 hM (by decide) rfl rfl rfl (fun w hM hF_ => ?_)
    replace hF := Fr.tr hF hF_
    refine st_iload_n (q := 27) dX7_end_26 rfl rfl rfl ?_
    refine st_ireturn dX7_end_27 rfl ?_
    exact ⟨by rw [endS, if_pos (zI_1.mp c_11), et], rfl, by rw [menS, if_pos (zI_1.mp c_11)]; exact hM, hF⟩
  · refine st_iconst (q := 15) dX7_end_14 rfl ic_m1 ?_
    refine st_ireturn dX7_end_15 rfl ?_
    exact ⟨by rw [endS, if_neg (by rw [zI_0.mp c_11]; decide)], rfl, by rw [menS, if_neg (by rw [zI_0.mp c_11]; decide)]; exact hM, hF⟩
set_option maxRecDepth 100000 in
set_option maxHeartbeats 4000000 in
theorem c_X7_fault {E : ev_E} {n : Nat} {w : ev_W} {S : gT} {f : Nat → Int32} {w0 : ev_W} (hF : Fr 70 82 w0 w) (hM : MR S f 70 n w) : Ct E mX7_fault [.ref 70] n w (ev_mr (S 11 0) n w0 (MR S f 70 n)) := by
  refine Ct.of 0 (by decide) (Nat.le_of_ble_eq_true rfl) rfl ?_
  refine st_aload_n (q := 1) dX7_fault_0 rfl rfl rfl ?_
  refine m_get (q := 4) dX7_fault_1 rfl fl_X7_133.g hM (by decide) rfl ?_
  refine st_ireturn dX7_fault_4 rfl ?_
  exact ⟨rfl, rfl, hM, hF⟩
set_option maxRecDepth 100000 in
set_option maxHeartbeats 4000000 in
theorem c_X7_torn {E : ev_E} {n : Nat} {w : ev_W} {S : gT} {f : Nat → Int32} {w0 : ev_W} (hF : Fr 70 82 w0 w) (hM : MR S f 70 n w) : Ct E mX7_torn [.ref 70] n w (ev_mr (S 28 0) n w0 (MR S f 70 n)) := by
  refine Ct.of 0 (by decide) (Nat.le_of_ble_eq_true rfl) rfl ?_
  refine st_aload_n (q := 1) dX7_torn_0 rfl rfl rfl ?_
  refine m_get (q := 4) dX7_torn_1 rfl fl_X7_241.g hM (by decide) rfl ?_
  refine st_ireturn dX7_torn_4 rfl ?_
  exact ⟨rfl, rfl, hM, hF⟩
set_option maxRecDepth 100000 in
set_option maxHeartbeats 4000000 in
theorem c_X7_rule {E : ev_E} {n : Nat} {w : ev_W} {S : gT} {f : Nat → Int32} {w0 : ev_W} (hF : Fr 70 82 w0 w) (hM : MR S f 70 n w) {T : gT} {nh nt dd : Nat} (hQ : RQ T f 0 nh nt dd) (e1 : S 1 0 = nI nh) (e2 : S 2 0 = nI nt) {x : Int32} : Ct E mX7_rule [.ref 70, .int x] n w (ev_mr (ruleS T x) n w0 (MR S f 70 n)) := by
  refine Ct.of 0 (by decide) (Nat.le_of_ble_eq_true rfl) rfl ?_
  have hl := hQ.1.lv.1
  have hd := hQ.1.da
  have hs := hQ.1.so.1
  have hwd := hQ.2.1
  have ha := hQ.1.af
  have h1 := hQ.1.th1
  have h2 := hQ.1.th2
  have h0 := hQ.1.e0
  have h6 := hQ.1.e6
  rw [Nat.zero_add] at hl hd hs hwd
  refine st_iload_n (q := 1) dX7_rule_0 rfl rfl rfl ?_
  refine st_tabK 0 (v := 0) (tgt := 52) dX7_rule_1 rfl rfl (by decide) (by decide) (fun c_1_0 => ?_) (fun c_1_0 t_1_0 => ?_)
  · refine st_aload_n (q := 53) dX7_rule_52 rfl rfl rfl ?_
    refine m_get (q := 56) dX7_rule_53 rfl fl_X7_136.g hM (by decide) rfl ?_
    refine st_ireturn dX7_rule_56 rfl ?_
    refine ⟨?_, rfl, hM, hF⟩
    simp_all [ruleS]
  refine st_tabK 1 (v := 1) (tgt := 57) dX7_rule_1 rfl rfl (by decide) (by decide) (fun c_1_1 => ?_) (fun c_1_1 t_1_1 => ?_)
  · refine st_aload_n (q := 58) dX7_rule_57 rfl rfl rfl ?_
    refine m_get (q := 61) dX7_rule_58 rfl fl_X7_139.g hM (by decide) rfl ?_
    refine st_ireturn dX7_rule_61 rfl ?_
    refine ⟨?_, rfl, hM, hF⟩
    simp_all [ruleS]
  refine st_tabK 2 (v := 2) (tgt := 62) dX7_rule_1 rfl rfl (by decide) (by decide) (fun c_1_2 => ?_) (fun c_1_2 t_1_2 => ?_)
  · refine st_aload_n (q := 63) dX7_rule_62 rfl rfl rfl ?_
    refine g_getA (q := 66) dX7_rule_63 rfl fl_X7_7.g hM rfl ?_
    refine st_bipush (q := 68) dX7_rule_66 rfl bp_69 ?_
    refine m_sld (q := 69) dX7_rule_68 rfl hM (by exact ev_ix_nI (j := 69) (by decide) (by decide)) ?_
    refine st_ireturn dX7_rule_69 rfl ?_
    refine ⟨?_, rfl, hM, hF⟩
    simp_all [ruleS]
  refine st_tabK 3 (v := 3) (tgt := 70) dX7_rule_1 rfl rfl (by decide) (by decide) (fun c_1_3 => ?_) (fun c_1_3 t_1_3 => ?_)
  · refine st_aload_n (q := 71) dX7_rule_70 rfl rfl rfl ?_
    refine g_getA (q := 74) dX7_rule_71 rfl fl_X7_7.g hM rfl ?_
    refine st_bipush (q := 76) dX7_rule_74 rfl bp_68 ?_
    refine m_sld (q := 77) dX7_rule_76 rfl hM (by exact ev_ix_nI (j := 68) (by decide) (by decide)) ?_
    refine st_ireturn dX7_rule_77 rfl ?_
    refine ⟨?_, rfl, hM, hF⟩
    simp_all [ruleS]
  refine st_tabK 4 (v := 4) (tgt := 78) dX7_rule_1 rfl rfl (by decide) (by decide) (fun c_1_4 => ?_) (fun c_1_4 t_1_4 => ?_)
  · refine st_aload_n (q := 79) dX7_rule_78 rfl rfl rfl ?_
    refine g_getA (q := 82) dX7_rule_79 rfl fl_X7_7.g hM rfl ?_
    refine st_bipush (q := 84) dX7_rule_82 rfl bp_70 ?_
    refine m_sld (q := 85) dX7_rule_84 rfl hM (by exact ev_ix_nI (j := 70) (by decide) (by decide)) ?_
    refine st_ireturn dX7_rule_85 rfl ?_
    refine ⟨?_, rfl, hM, hF⟩
    simp_all [ruleS]
  refine st_tabK 5 (v := 5) (tgt := 86) dX7_rule_1 rfl rfl (by decide) (by decide) (fun c_1_5 => ?_) (fun c_1_5 t_1_5 => ?_)
  · refine st_aload_n (q := 87) dX7_rule_86 rfl rfl rfl ?_
    refine g_getA (q := 90) dX7_rule_87 rfl fl_X7_7.g hM rfl ?_
    refine st_bipush (q := 92) dX7_rule_90 rfl bp_67 ?_
    refine m_sld (q := 93) dX7_rule_92 rfl hM (by exact ev_ix_nI (j := 67) (by decide) (by decide)) ?_
    refine st_iconst (q := 94) dX7_rule_93 rfl ic_4 ?_
    refine st_iadd (q := 95) dX7_rule_94 rfl ?_
    refine st_ireturn dX7_rule_95 rfl ?_
    refine ⟨?_, rfl, hM, hF⟩
    simp_all [ruleS]
  refine st_tabK 6 (v := 6) (tgt := 96) dX7_rule_1 rfl rfl (by decide) (by decide) (fun c_1_6 => ?_) (fun c_1_6 t_1_6 => ?_)
  · refine st_aload_n (q := 97) dX7_rule_96 rfl rfl rfl ?_
    refine st_iconst (q := 98) dX7_rule_97 rfl ic_0 ?_
    refine sp_V1 (q := 101) (M' := mX7_afloatOn) dX7_rule_98 rfl ok_X7_afloatOn mk_X7_afloatOn ml_X7_161 ⟨Nat.le_of_ble_eq_true rfl, Nat.le_of_ble_eq_true rfl⟩ rfl (Nat.le_of_ble_eq_true rfl) (g_rv hM rfl) ⟨rfl, rfl⟩ (c_X7_afloatOn hM (p := 0) (by decide) e1 hQ.1.hnh) ?_
    refine st_ireturn dX7_rule_101 rfl ?_
    refine ⟨?_, rfl, hM, hF⟩
    simp_all [ruleS]
  refine st_tabK 7 (v := 7) (tgt := 102) dX7_rule_1 rfl rfl (by decide) (by decide) (fun c_1_7 => ?_) (fun c_1_7 t_1_7 => ?_)
  · refine st_aload_n (q := 103) dX7_rule_102 rfl rfl rfl ?_
    refine st_iconst (q := 104) dX7_rule_103 rfl ic_0 ?_
    refine st_iconst (q := 105) dX7_rule_104 rfl ic_1 ?_
    refine sp_V2 (q := 108) (M' := mX7_thoseOn) dX7_rule_105 rfl ok_X7_thoseOn mk_X7_thoseOn ml_X7_164 ⟨Nat.le_of_ble_eq_true rfl, Nat.le_of_ble_eq_true rfl⟩ rfl (Nat.le_of_ble_eq_true rfl) (g_rv hM rfl) ⟨rfl, rfl⟩ (c_X7_thoseOn hM (p := 0) (by decide) e2 hQ.1.hnt) ?_
    refine st_ireturn dX7_rule_108 rfl ?_
    refine ⟨?_, rfl, hM, hF⟩
    simp_all [ruleS]
  refine st_tabK 8 (v := 8) (tgt := 109) dX7_rule_1 rfl rfl (by decide) (by decide) (fun c_1_8 => ?_) (fun c_1_8 t_1_8 => ?_)
  · refine st_aload_n (q := 110) dX7_rule_109 rfl rfl rfl ?_
    refine st_iconst (q := 111) dX7_rule_110 rfl ic_0 ?_
    refine st_iconst (q := 112) dX7_rule_111 rfl ic_2 ?_
    refine sp_V2 (q := 115) (M' := mX7_thoseOn) dX7_rule_112 rfl ok_X7_thoseOn mk_X7_thoseOn ml_X7_164 ⟨Nat.le_of_ble_eq_true rfl, Nat.le_of_ble_eq_true rfl⟩ rfl (Nat.le_of_ble_eq_true rfl) (g_rv hM rfl) ⟨rfl, rfl⟩ (c_X7_thoseOn hM (p := 0) (by decide) e2 hQ.1.hnt) ?_
    refine st_ireturn dX7_rule_115 rfl ?_
    refine ⟨?_, rfl, hM, hF⟩
    simp_all [ruleS]
  refine st_tableOut (tgt := 116) dX7_rule_1 (by omega) rfl ?_
  refine st_iconst (q := 117) dX7_rule_116 rfl ic_m1 ?_
  refine st_ireturn dX7_rule_117 rfl ?_
  refine ⟨?_, rfl, hM, hF⟩
  simp_all [ruleS]
