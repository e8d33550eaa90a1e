def fuT (T : gT) (dd nh nt j : Nat) : gT := fun _ b => dysT (tup T 2 j (nI (b / 21))) dd nh nt (b % 21) 17 0
theorem fuT_at {T : gT} {dd nh nt j k d : Nat} (hd : d < 21) : fuT T dd nh nt j 0 (k * 21 + d) = dysT (tup T 2 j (nI k)) dd nh nt d 17 0 := by
  unfold fuT
  rw [show (k * 21 + d) / 21 = k from by omega, show (k * 21 + d) % 21 = d from by omega]
theorem alF_c {U U' : gT} {op : Int32} {r d R : Nat} (h : ∀ k, k < R → U 0 (k * 21 + d) = U' 0 (k * 21 + d)) (hr : r < R) : ∀ k, r + k ≤ R → alF U op r d k = alF U' op r d k
  | 0, _ => rfl
  | k + 1, hk => by rw [alF, alF, alF_c h hr k (by omega), h (r + k) (by omega), h r hr]
theorem lwF_c {U U' : gT} {op : Int32} {d R : Nat} (h : ∀ k, k < R → U 0 (k * 21 + d) = U' 0 (k * 21 + d)) : ∀ r, r ≤ R → lwF U op d R r = lwF U' op d R r
  | 0, _ => rfl
  | r + 1, hr => by rw [lwF, lwF, lwF_c h r (by omega), alF_c h (by omega) (R - r) (by omega)]
def askF (T : gT) (dd nh nt j : Nat) (op : Int32) : Nat → Int32 × Int32 := mnF (fun _ => true) (fun d => lwF (fuT T dd nh nt j) op d 31 31) nI (bcI op, -4)
def bwF (r : Int32 × Int32) (y : Int32) : Int32 := if r.2 = -4 then r.2 else if y = 0 then r.2 else r.1
def askS (S T : gT) (nh nt dd sz : Nat) (x y : Int32) : Int32 := if inI x 0 (nI nh - 1) = true then (if inI y 0 1 = true then bwF (askF T dd nh nt x.toNatClampNeg (rmI S T nh nt dd sz x.toNatClampNeg) 21) y else -1) else -1
set_option maxRecDepth 100000 in
set_option maxHeartbeats 4000000 in
theorem c_X6_ask {E : ev_E} {X Tn : gT} {Ti : Nat → gT} {Tp Sg : gT} {Sh : Nat → gT} {n : Nat} {w : ev_W} {w0 : ev_W} (hF : Fr 0 70 w0 w) (hX : XI X Tn Ti Tp Sg Sh n w) {nh nt dd : Nat} (hK : TK Tn nh nt dd) {sz : Nat} (hS : SK Sg sz) {x y : Int32} : Ct E mX6_ask [.ref 0, .int x, .int y] n w (ev_xr (askS Sg Tn nh nt dd sz x y) n w0 (XI X Tn Ti Tp Sg Sh n)) := by
  refine Ct.of 5 (by decide) (Nat.le_of_ble_eq_true rfl) rfl ?_
  have hd9 := hK.2.2.2.2.2.2
  refine st_aload_n (q := 1) dX6_ask_0 rfl rfl rfl ?_
  refine g_getO (q := 4) dX6_ask_1 rfl fl_X6_10.g hX.x rfl ?_
  refine st_iload_n (q := 5) dX6_ask_4 rfl rfl rfl ?_
  refine sp_V1 (q := 8) (M' := mX5_isHouse) dX6_ask_5 rfl ok_X5_isHouse mk_X5_isHouse ml_X6_122 ⟨Nat.le_of_ble_eq_true rfl, Nat.le_of_ble_eq_true rfl⟩ rfl (Nat.le_of_ble_eq_true rfl) (g_rv hX.now rfl) ⟨rfl, rfl⟩ (c_X5_isHouse hX.now) ?_
  refine st_if_eq (q := 11) (tgt := 20) dX6_ask_8 rfl rfl (fun c_8 => ?_) (fun c_8 => ?_)
  · refine st_iconst (q := 21) dX6_ask_20 rfl ic_m1 ?_
    refine st_ireturn dX6_ask_21 rfl ?_
    first
      | exact ⟨by rw [askS, if_neg (by rw [← hK.1, zI_0.mp c_8]; decide)], rfl, hX, hF⟩
      | exact ⟨by rw [askS, if_pos (by rw [← hK.1]; exact zI_1.mp c_8), if_neg (by rw [zI_0.mp c_17]; decide)], rfl, hX, hF⟩
  · refine st_iload_n (q := 12) dX6_ask_11 rfl rfl rfl ?_
    refine st_iconst (q := 13) dX6_ask_12 rfl ic_0 ?_
    refine st_iconst (q := 14) dX6_ask_13 rfl ic_1 ?_
    refine sp_S3 (q := 17) (M' := mX6_within) dX6_ask_14 rfl ok_X6_within mk_X6_within ml_X6_51 ⟨Nat.le_of_ble_eq_true rfl, Nat.le_of_ble_eq_true rfl⟩ rfl (Nat.le_of_ble_eq_true rfl) ⟨rfl, rfl⟩ (c_X6_within) ?_
    refine st_if_ne (q := 20) (tgt := 22) dX6_ask_17 rfl rfl (fun c_17 => ?_) (fun c_17 => ?_)
    · obtain ⟨j, hj, rfl⟩ := inI_ix (by rw [← hK.1]; exact zI_1.mp c_8) (by have := hK.2.1; omega)
      have h1 : inI (nI j) 0 (nI nh - 1) = true := by rw [← hK.1]; exact zI_1.mp c_8
      have hjc : (nI j).toNatClampNeg = j := nI_clamp (by have := hK.2.1; omega)
      have hK4 := hK.2.1
      refine st_aload_n (q := 23) dX6_ask_22 rfl rfl rfl ?_
      refine st_iload_n (q := 24) dX6_ask_23 rfl rfl rfl ?_
      refine st_bipush (q := 26) dX6_ask_24 rfl bp_20 ?_
      refine sm_V2 (q := 29) (M' := mX6_tellRooms) dX6_ask_26 rfl ok_X6_tellRooms mk_X6_tellRooms ml_X6_288 ⟨Nat.le_of_ble_eq_true rfl, Nat.le_of_ble_eq_true rfl⟩ rfl (Nat.le_of_ble_eq_true rfl) (g_rv hX.x rfl) ⟨rfl, rfl⟩ (c_X6_tellRooms Fr.rf hX hK (j := j) (by omega) (la := 20) (by decide)) ?_
      intro _ n w h9 _
      obtain ⟨rfl, rfl, ⟨hX, U, hFu, hU⟩, hF_⟩ := h9
      replace hF := Fr.tr hF hF_
      have eo : bsF (agF Sg U sz) 31 = (rmI Sg Tn nh nt dd sz j) := hU.bs hS.l20
      refine st_aload_n (q := 30) dX6_ask_29 rfl rfl rfl ?_
      refine g_getO (q := 33) dX6_ask_30 rfl fl_X6_33.g hX.x rfl ?_
      refine st_aload_n (q := 34) dX6_ask_33 rfl rfl rfl ?_
      refine g_getO (q := 37) dX6_ask_34 rfl fl_X6_40.g hX.x rfl ?_
      refine sp_V1 (q := 40) (M' := mX3_rowsAsSeen) dX6_ask_37 rfl ok_X3_rowsAsSeen mk_X3_rowsAsSeen ml_X6_284 ⟨Nat.le_of_ble_eq_true rfl, Nat.le_of_ble_eq_true rfl⟩ rfl (Nat.le_of_ble_eq_true rfl) (g_rv hX.sg rfl) ⟨rfl, rfl⟩ (c_X3_rowsAsSeen hX.sg hS.1 hS.2.1 hFu hS.vp hU.1 (by omega)) ?_
      rw [eo]
      refine st_istore_n (q := 41) (L' := [_, _, _, _, _, _, _, _]) dX6_ask_40 rfl rfl (Nat.le_of_ble_eq_true rfl) rfl ?_
      refine st_iload_n (q := 42) dX6_ask_41 rfl rfl rfl ?_
      refine sp_S1 (q := 45) (M' := mJ6_bitCount_0f7a4) dX6_ask_42 rfl ok_J6_bitCount_0f7a4 mk_J6_bitCount_0f7a4 ml_X6_291 ⟨Nat.le_of_ble_eq_true rfl, Nat.le_of_ble_eq_true rfl⟩ rfl (Nat.le_of_ble_eq_true rfl) ⟨rfl, rfl⟩ (c_J6_bitCount_0f7a4) ?_
      refine st_istore (q := 47) (L' := [_, _, _, _, _, _, _, _]) dX6_ask_45 rfl (Nat.le_of_ble_eq_true rfl) rfl ?_
      refine st_bipush (q := 49) dX6_ask_47 rfl bp_m4 ?_
      refine st_istore (q := 51) (L' := [_, _, _, _, _, _, _, _]) dX6_ask_49 rfl (Nat.le_of_ble_eq_true rfl) rfl ?_
      refine st_iconst (q := 52) dX6_ask_51 rfl ic_0 ?_
      refine st_istore (q := 54) (L' := [_, _, _, _, _, _, _, _]) dX6_ask_52 rfl (Nat.le_of_ble_eq_true rfl) rfl ?_
      have lp : ∀ (k i : Nat), i + k = 21 → ∀ (w1 : ev_W) (la : Option Value), XI X Tn Ti Tp Sg Sh n w1 → Fr 0 70 w0 w1 → GF U 59 n w1 → Ev E mX6_ask 54 [some (.ref 0), some (.int (nI j)), some (.int y), some (.int (rmI Sg Tn nh nt dd sz j)), some (.int (askF Tn dd nh nt j (rmI Sg Tn nh nt dd sz j) i).1), some (.int (askF Tn dd nh nt j (rmI Sg Tn nh nt dd sz j) i).2), some (.int (nI i)), la] [] n w1 (0, 0) (ev_xr (askS Sg Tn nh nt dd sz (nI j) y) n w0 (XI X Tn Ti Tp Sg Sh n)) := by
        clear hX hF hFu
        intro k
        induction k with
        | zero =>
          intro i hi w la hX hF hFu
          obtain rfl : i = 21 := hi
          refine st_iload (q := 56) dX6_ask_54 rfl rfl ?_
          refine st_bipush (q := 58) dX6_ask_56 rfl bp_20 ?_
          refine st_icmp_gt (q := 61) (tgt := 94) dX6_ask_58 rfl rfl (fun c_58 => ?_) (fun c_58 => False.elim (c_58 (by decide)))
          refine st_iload (q := 96) dX6_ask_94 rfl rfl ?_
          refine st_bipush (q := 98) dX6_ask_96 rfl bp_m4 ?_
          refine st_icmp_eq (q := 101) (tgt := 105) dX6_ask_98 rfl rfl (fun c_98 => ?_) (fun c_98 => ?_)
          · refine st_iload (q := 107) dX6_ask_105 rfl rfl ?_
            refine st_goto (q := 112) dX6_ask_107 rfl ?_
            refine st_ireturn dX6_ask_112 rfl ?_
            refine ⟨?_, rfl, hX, hF⟩
            rw [askS, if_pos h1, if_pos (zI_1.mp c_17), hjc, bwF]
            simp_all
          · refine st_iload_n (q := 102) dX6_ask_101 rfl rfl rfl ?_
            refine st_if_ne (q := 105) (tgt := 110) dX6_ask_102 rfl rfl (fun c_102 => ?_) (fun c_102 => ?_)
            · refine st_iload (q := 112) dX6_ask_110 rfl rfl ?_
              refine st_ireturn dX6_ask_112 rfl ?_
              refine ⟨?_, rfl, hX, hF⟩
              rw [askS, if_pos h1, if_pos (zI_1.mp c_17), hjc, bwF]
              simp_all
            · refine st_iload (q := 107) dX6_ask_105 rfl rfl ?_
              refine st_goto (q := 112) dX6_ask_107 rfl ?_
              refine st_ireturn dX6_ask_112 rfl ?_
              refine ⟨?_, rfl, hX, hF⟩
              rw [askS, if_pos h1, if_pos (zI_1.mp c_17), hjc, bwF]
              simp_all
        | succ k ih =>
          intro i hi w la hX hF hFu
          refine st_iload (q := 56) dX6_ask_54 rfl rfl ?_
          refine st_bipush (q := 58) dX6_ask_56 rfl bp_20 ?_
          refine st_icmp_gt (q := 61) (tgt := 94) dX6_ask_58 rfl rfl (fun c_58 => False.elim (absurd c_58 (nI_nlt (a := 20) (b := i) (by omega) (by omega)))) (fun c_58 => ?_)
          refine st_aload_n (q := 62) dX6_ask_61 rfl rfl rfl ?_
          refine g_getO (q := 65) dX6_ask_62 rfl fl_X6_40.g hX.x rfl ?_
          refine st_iload_n (q := 66) dX6_ask_65 rfl rfl rfl ?_
          refine st_iload (q := 68) dX6_ask_66 rfl rfl ?_
          refine sp_V2 (q := 71) (M' := mX0_leftAtWorst) dX6_ask_68 rfl ok_X0_leftAtWorst mk_X0_leftAtWorst ml_X6_296 ⟨Nat.le_of_ble_eq_true rfl, Nat.le_of_ble_eq_true rfl⟩ rfl (Nat.le_of_ble_eq_true rfl) (g_rv hFu rfl) ⟨rfl, rfl⟩ (c_X0_leftAtWorst hFu hU.1 (by omega) (op := (rmI Sg Tn nh nt dd sz j)) (d := i) (by omega)) ?_
          rw [lwF_c (U' := fuT Tn dd nh nt j) (fun k hk => by rw [hU.2 k hk i (by omega), fuT_at (by omega)]) _ (Nat.le_refl _)]
          refine st_istore (q := 73) (L' := [_, _, _, _, _, _, _, _]) dX6_ask_71 rfl (Nat.le_of_ble_eq_true rfl) rfl ?_
          refine st_iload (q := 75) dX6_ask_73 rfl rfl ?_
          refine st_iload (q := 77) dX6_ask_75 rfl rfl ?_
          refine st_icmp_ge (q := 80) (tgt := 88) dX6_ask_77 rfl rfl (fun c_77 => ?_) (fun c_77 => ?_)
          · refine st_iinc (q := 91) (L' := [_, _, _, _, _, _, _, _]) dX6_ask_88 rfl rfl (nI_succ _).symm (Nat.le_of_ble_eq_true rfl) rfl ?_
            refine st_goto (q := 54) dX6_ask_91 rfl ?_
            first
              | (have K := ih (i + 1) (by omega) w (some (.int (lwF (fuT Tn dd nh nt j) (rmI Sg Tn nh nt dd sz j) i 31 31))) hX hF hFu; rw [show askF Tn dd nh nt j (rmI Sg Tn nh nt dd sz j) (i + 1) = _ from mnF_y rfl c_77] at K; exact K)
              | (have K := ih (i + 1) (by omega) w (some (.int (lwF (fuT Tn dd nh nt j) (rmI Sg Tn nh nt dd sz j) i 31 31))) hX hF hFu; rw [show askF Tn dd nh nt j (rmI Sg Tn nh nt dd sz j) (i + 1) = _ from mnF_k rfl c_77] at K; exact K)
          · refine st_iload (q := 82) dX6_ask_80 rfl rfl ?_
            refine st_istore (q := 84) (L' := [_, _, _, _, _, _, _, _]) dX6_ask_82 rfl (Nat.le_of_ble_eq_true rfl) rfl ?_
            refine st_iload (q := 86) dX6_ask_84 rfl rfl ?_
            refine st_istore (q := 88) (L' := [_, _, _, _, _, _, _, _]) dX6_ask_86 rfl (Nat.le_of_ble_eq_true rfl) rfl ?_
            refine st_iinc (q := 91) (L' := [_, _, _, _, _, _, _, _]) dX6_ask_88 rfl rfl (nI_succ _).symm (Nat.le_of_ble_eq_true rfl) rfl ?_
            refine st_goto (q := 54) dX6_ask_91 rfl ?_
            first
              | (have K := ih (i + 1) (by omega) w (some (.int (lwF (fuT Tn dd nh nt j) (rmI Sg Tn nh nt dd sz j) i 31 31))) hX hF hFu; rw [show askF Tn dd nh nt j (rmI Sg Tn nh nt dd sz j) (i + 1) = _ from mnF_y rfl c_77] at K; exact K)
              | (have K := ih (i + 1) (by omega) w (some (.int (lwF (fuT Tn dd nh nt j) (rmI Sg Tn nh nt dd sz j) i 31 31))) hX hF hFu; rw [show askF Tn dd nh nt j (rmI Sg Tn nh nt dd sz j) (i + 1) = _ from mnF_k rfl c_77] at K; exact K)
      exact lp 21 0 (by omega) w _ hX hF hFu
    · refine st_iconst (q := 21) dX6_ask_20 rfl ic_m1 ?_
      refine st_ireturn dX6_ask_21 rfl ?_
      first
        | exact ⟨by rw [askS, if_neg (by rw [← hK.1, zI_0.mp c_8]; decide)], rfl, hX, hF⟩
        | exact ⟨by rw [askS, if_pos (by rw [← hK.1]; exact zI_1.mp c_8), if_neg (by rw [zI_0.mp c_17]; decide)], rfl, hX, hF⟩
def sdF (s : Int32) : Nat → Int32
  | 0 => s
  | k + 1 => sdF s k * 1103515245 + 12345
def gtI (s : Int32) : Int32 := (s.toUInt32 >>> ((16 : Int32).toUInt32 &&& Int32.toUInt32 31)).toInt32 &&& 32767
def rmJ (x y : Int32) : Int32 := x - x / y * y
def dfT (T : gT) (nh nt : Nat) (s : Int32) : Nat → gT
  | 0 => T
  | k + 1 => pdT (dfT T nh nt s k) (rmJ (gtI (sdF s (k + 1))) 9) (rmJ (gtI (sdF s (k + 1)) / 16) 9) nh nt
theorem dfT_n {T : gT} {nh nt g : Nat} {s : Int32} (h0 : g ≠ 2) (h1 : g ≠ 11) (h2 : g ≠ 12) (h3 : g ≠ 17) (h4 : g ≠ 4) (h5 : g ≠ 5) (h6 : g ≠ 15) (h7 : g ≠ 16) : ∀ i, dfT T nh nt s i g = T g
  | 0 => rfl
  | i + 1 => by rw [dfT, pdT_n h0 h1 h2 h3 h4 h5 h6 h7, dfT_n h0 h1 h2 h3 h4 h5 h6 h7 i]
def driftS (T : gT) (nh nt : Nat) (s x y : Int32) : Int32 := if inI x 1 60 = true then (if inI y 0 1 = true then (if nh = 0 then -2 else if y = 0 then dfT T nh nt s x.toNatClampNeg 17 0 - T 17 0 else dfT T nh nt s x.toNatClampNeg 5 0) else -1) else -1
theorem inI_1 {x : Int32} (h : inI x 1 60 = true) : inI x 0 60 = true := by
  simp only [inI, Bool.and_eq_true, decide_eq_true_eq] at h ⊢
  exact ⟨Int32.le_trans (by decide) h.1, h.2⟩
theorem nI_z {a : Nat} (h : a < 2 ^ 31) (e : nI a = 0) : a = 0 := by
  have := congrArg Int32.toInt e
  rw [nI_toInt h] at this
  simpa using this
set_option maxRecDepth 100000 in
set_option maxHeartbeats 4000000 in
theorem c_X6_drift {E : ev_E} {X Tn : gT} {Ti : Nat → gT} {Tp Sg : gT} {Sh : Nat → gT} {n : Nat} {w : ev_W} {w0 : ev_W} (hF : Fr 0 70 w0 w) (hX : XI X Tn Ti Tp Sg Sh n w) {nh nt dd : Nat} (hK : TK Tn nh nt dd) {s x y : Int32} : Ct E mX6_drift [.ref 0, .int s, .int x, .int y] n w (ev_xr (driftS Tn nh nt s x y) n w0 (XI X Tn Ti Tp Sg Sh n)) := by
  refine Ct.of 4 (by decide) (Nat.le_of_ble_eq_true rfl) rfl ?_
  refine st_iload_n (q := 1) dX6_drift_0 rfl rfl rfl ?_
  refine st_iconst (q := 2) dX6_drift_1 rfl ic_1 ?_
  refine st_bipush (q := 4) dX6_drift_2 rfl bp_60 ?_
  refine sp_S3 (q := 7) (M' := mX6_within) dX6_drift_4 rfl ok_X6_within mk_X6_within ml_X6_51 ⟨Nat.le_of_ble_eq_true rfl, Nat.le_of_ble_eq_true rfl⟩ rfl (Nat.le_of_ble_eq_true rfl) ⟨rfl, rfl⟩ (c_X6_within) ?_
  refine st_if_eq (q := 10) (tgt := 19) dX6_drift_7 rfl rfl (fun c_7 => ?_) (fun c_7 => ?_)
  · refine st_iconst (q := 20) dX6_drift_19 rfl ic_m1 ?_
    refine st_ireturn dX6_drift_20 rfl ?_
    first
      | exact ⟨by rw [driftS, if_neg (by rw [zI_0.mp c_7]; decide)], rfl, hX, hF⟩
      | exact ⟨by rw [driftS, if_pos (zI_1.mp c_7), if_neg (by rw [zI_0.mp c_16]; decide)], rfl, hX, hF⟩
  · refine st_iload_n (q := 11) dX6_drift_10 rfl rfl rfl ?_
    refine st_iconst (q := 12) dX6_drift_11 rfl ic_0 ?_
    refine st_iconst (q := 13) dX6_drift_12 rfl ic_1 ?_
    refine sp_S3 (q := 16) (M' := mX6_within) dX6_drift_13 rfl ok_X6_within mk_X6_within ml_X6_51 ⟨Nat.le_of_ble_eq_true rfl, Nat.le_of_ble_eq_true rfl⟩ rfl (Nat.le_of_ble_eq_true rfl) ⟨rfl, rfl⟩ (c_X6_within) ?_
    refine st_if_ne (q := 19) (tgt := 21) dX6_drift_16 rfl rfl (fun c_16 => ?_) (fun c_16 => ?_)
    · refine st_aload_n (q := 22) dX6_drift_21 rfl rfl rfl ?_
      refine g_getO (q := 25) dX6_drift_22 rfl fl_X6_10.g hX.x rfl ?_
      refine g_get (q := 28) dX6_drift_25 rfl fl_X6_95.g hX.now rfl ?_
      refine st_if_ne (q := 31) (tgt := 34) dX6_drift_28 rfl rfl (fun c_28 => ?_) (fun c_28 => ?_)
      · obtain ⟨m, hm, rfl⟩ := inI_k (k := 60) (inI_1 (zI_1.mp c_7)) (by decide)
        have h60 : inI (nI m) 1 60 = true := zI_1.mp c_7
        have hmc : (nI m).toNatClampNeg = m := nI_clamp (by omega)
        have hz : ¬ nh = 0 := fun z => c_28 (by rw [hK.1, z]; rfl)
        refine st_aload_n (q := 35) dX6_drift_34 rfl rfl rfl ?_
        refine sm_V0 (q := 38) (M' := mX6_copyOfNow) dX6_drift_35 rfl ok_X6_copyOfNow mk_X6_copyOfNow ml_X6_196 ⟨Nat.le_of_ble_eq_true rfl, Nat.le_of_ble_eq_true rfl⟩ rfl (Nat.le_of_ble_eq_true rfl) (g_rv hX.x rfl) ⟨rfl, rfl⟩ (c_X6_copyOfNow hX) ?_
        intro _ n w h9 _
        obtain ⟨rfl, rfl, hX, hQ, hF_⟩ := h9
        replace hF := Fr.tr hF (hF_.mono (by omega) (by omega))
        refine st_astore (q := 40) (L' := [_, _, _, _, _, _, _, _]) dX6_drift_38 rfl (Nat.le_of_ble_eq_true rfl) rfl ?_
        refine st_iload_n (q := 41) dX6_drift_40 rfl rfl rfl ?_
        refine st_istore (q := 43) (L' := [_, _, _, _, _, _, _, _]) dX6_drift_41 rfl (Nat.le_of_ble_eq_true rfl) rfl ?_
        refine st_iconst (q := 44) dX6_drift_43 rfl ic_0 ?_
        refine st_istore (q := 46) (L' := [_, _, _, _, _, _, _, _]) dX6_drift_44 rfl (Nat.le_of_ble_eq_true rfl) rfl ?_
        have lp : ∀ (k i : Nat), i + k = m → ∀ (w1 : ev_W) (la : Option Value), XI X Tn Ti Tp Sg Sh n w1 → Fr 0 70 w0 w1 → TR (dfT Tn nh nt s i) 11 n w1 → Ev E mX6_drift 46 [some (.ref 0), some (.int s), some (.int (nI m)), some (.int y), some (.ref 11), some (.int (sdF s i)), some (.int (nI i)), la] [] n w1 (0, 0) (ev_xr (driftS Tn nh nt s (nI m) y) n w0 (XI X Tn Ti Tp Sg Sh n)) := by
          clear hX hF hQ
          intro k
          induction k with
          | zero =>
            intro i hi w la hX hF hQ
            obtain rfl : i = m := hi
            refine st_iload (q := 48) dX6_drift_46 rfl rfl ?_
            refine st_iload_n (q := 49) dX6_drift_48 rfl rfl rfl ?_
            refine st_icmp_ge (q := 52) (tgt := 99) dX6_drift_49 rfl rfl (fun c_49 => ?_) (fun c_49 => False.elim (c_49 (Int32.le_refl _)))
            refine st_iload_n (q := 100) dX6_drift_99 rfl rfl rfl ?_
            refine st_if_ne (q := 103) (tgt := 119) dX6_drift_100 rfl rfl (fun c_100 => ?_) (fun c_100 => ?_)
            · refine st_aload (q := 121) dX6_drift_119 rfl rfl ?_
              refine g_get (q := 124) dX6_drift_121 rfl fl_X6_113.g hQ rfl ?_
              refine st_ireturn dX6_drift_124 rfl ?_
              refine ⟨?_, rfl, hX, hF⟩
              rw [driftS, if_pos h60, if_pos (zI_1.mp c_16), if_neg hz, hmc]
              simp_all
            · refine st_aload (q := 105) dX6_drift_103 rfl rfl ?_
              refine g_get (q := 108) dX6_drift_105 rfl fl_X6_107.g hQ rfl ?_
              refine st_aload_n (q := 109) dX6_drift_108 rfl rfl rfl ?_
              refine g_getO (q := 112) dX6_drift_109 rfl fl_X6_10.g hX.x rfl ?_
              refine g_get (q := 115) dX6_drift_112 rfl fl_X6_107.g hX.now rfl ?_
              refine st_isub (q := 116) dX6_drift_115 rfl ?_
              refine st_goto (q := 124) dX6_drift_116 rfl ?_
              refine st_ireturn dX6_drift_124 rfl ?_
              refine ⟨?_, rfl, hX, hF⟩
              rw [driftS, if_pos h60, if_pos (zI_1.mp c_16), if_neg hz, hmc]
              simp_all
          | succ k ih =>
            intro i hi w la hX hF hQ
            refine st_iload (q := 48) dX6_drift_46 rfl rfl ?_
            refine st_iload_n (q := 49) dX6_drift_48 rfl rfl rfl ?_
            refine st_icmp_ge (q := 52) (tgt := 99) dX6_drift_49 rfl rfl (fun c_49 => False.elim (absurd c_49 (nI_ge (a := i) (b := m) (by omega) (by omega)))) (fun c_49 => ?_)
            refine st_iload (q := 54) dX6_drift_52 rfl rfl ?_
            refine st_ldcw (q := 57) dX6_drift_54 rfl cn_X6_299 ?_
            refine st_imul (q := 58) dX6_drift_57 rfl ?_
            refine st_sipush (q := 61) dX6_drift_58 rfl sp_12345 ?_
            refine st_iadd (q := 62) dX6_drift_61 rfl ?_
            refine st_istore (q := 64) (L' := [_, _, _, _, _, _, _, _]) dX6_drift_62 rfl (Nat.le_of_ble_eq_true rfl) rfl ?_
            refine st_iload (q := 66) dX6_drift_64 rfl rfl ?_
            refine st_bipush (q := 68) dX6_drift_66 rfl bp_16 ?_
            refine st_iushr (q := 69) dX6_drift_68 rfl ?_
            refine st_sipush (q := 72) dX6_drift_69 rfl sp_32767 ?_
            refine st_iand (q := 73) dX6_drift_72 rfl ?_
            refine st_istore (q := 75) (L' := [_, _, _, _, _, _, _, _]) dX6_drift_73 rfl (Nat.le_of_ble_eq_true rfl) rfl ?_
            refine st_aload (q := 77) dX6_drift_75 rfl rfl ?_
            refine st_iload (q := 79) dX6_drift_77 rfl rfl ?_
            refine st_bipush (q := 81) dX6_drift_79 rfl bp_9 ?_
            refine st_irem (q := 82) dX6_drift_81 rfl (by decide) ?_
            refine st_iload (q := 84) dX6_drift_82 rfl rfl ?_
            refine st_bipush (q := 86) dX6_drift_84 rfl bp_16 ?_
            refine st_idiv (q := 87) dX6_drift_86 rfl (by decide) ?_
            refine st_bipush (q := 89) dX6_drift_87 rfl bp_9 ?_
            refine st_irem (q := 90) dX6_drift_89 rfl (by decide) ?_
            refine sm_V2 (q := 93) (M' := mX5_passDay) dX6_drift_90 rfl ok_X5_passDay mk_X5_passDay ml_X6_300 ⟨Nat.le_of_ble_eq_true rfl, Nat.le_of_ble_eq_true rfl⟩ rfl (Nat.le_of_ble_eq_true rfl) (g_rv hQ rfl) ⟨rfl, rfl⟩ (c_X5_passDay hQ (by rw [dfT_n (by decide) (by decide) (by decide) (by decide) (by decide) (by decide) (by decide) (by decide)]; exact hK.2.2.1) hK.2.2.2.1 (by rw [dfT_n (by decide) (by decide) (by decide) (by decide) (by decide) (by decide) (by decide) (by decide)]; exact hK.1) hK.2.1) ?_
            intro _ n w h9 _
            obtain ⟨rfl, rfl, hQ, hF_⟩ := h9
            replace hX := hX.setTrial hQ hF_
            replace hF := Fr.tr hF (hF_.mono (by omega) (by omega))
            refine st_iinc (q := 96) (L' := [_, _, _, _, _, _, _, _]) dX6_drift_93 rfl rfl (nI_succ _).symm (Nat.le_of_ble_eq_true rfl) rfl ?_
            refine st_goto (q := 46) dX6_drift_96 rfl ?_
            exact ih (i + 1) (by omega) w _ hX hF hQ
        exact lp m 0 (by omega) w _ hX hF hQ
      · refine st_bipush (q := 33) dX6_drift_31 rfl bp_m2 ?_
        refine st_ireturn dX6_drift_33 rfl ?_
        exact ⟨by rw [driftS, if_pos (zI_1.mp c_7), if_pos (zI_1.mp c_16), if_pos (by rw [hK.1] at c_28; exact nI_z (by have := hK.2.1; omega) c_28)], rfl, hX, hF⟩
    · refine st_iconst (q := 20) dX6_drift_19 rfl ic_m1 ?_
      refine st_ireturn dX6_drift_20 rfl ?_
      first
        | exact ⟨by rw [driftS, if_neg (by rw [zI_0.mp c_7]; decide)], rfl, hX, hF⟩
        | exact ⟨by rw [driftS, if_pos (zI_1.mp c_7), if_neg (by rw [zI_0.mp c_16]; decide)], rfl, hX, hF⟩
