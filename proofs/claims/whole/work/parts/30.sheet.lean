def keepS (X : gT) (x : Int32) : Int32 := if inI x 0 1 = true then (X 3 0 >>> (x &&& 31)) &&& 1 else -1
def keepX (X : gT) (x : Int32) : gT := if inI x 0 1 = true then tup X 3 0 (X 3 0 ||| 1 <<< (x &&& 31)) else X
def keepI (I : Nat → gT) (T : gT) (x : Int32) : Nat → gT := if inI x 0 1 = true then (fun k => if k = x.toNatClampNeg then T else I k) else I
def backS (X : gT) (I : Nat → gT) (x : Int32) : Int32 := if inI x 0 1 = true then (if (X 3 0 >>> (x &&& 31)) &&& 1 = 0 then -2 else I x.toNatClampNeg 16 0) else -1
def backT (X : gT) (I : Nat → gT) (T : gT) (x : Int32) : gT := if inI x 0 1 = true then (if (X 3 0 >>> (x &&& 31)) &&& 1 = 0 then T else I x.toNatClampNeg) else T
set_option maxRecDepth 100000 in
set_option maxHeartbeats 4000000 in
theorem c_X6_keep {E : ev_E} {X Tn : gT} {Ti : Nat → gT} {Tp Sg : gT} {Sh : Nat → gT} {n : Nat} {w : ev_W} {w0 : ev_W} (hF : Fr 0 70 w0 w) (hX : XI X Tn Ti Tp Sg Sh n w) {x : Int32} : Ct E mX6_keep [.ref 0, .int x] n w (ev_xr (keepS X x) n w0 (XI (keepX X x) Tn (keepI Ti Tn x) Tp Sg Sh n)) := by
  refine Ct.of 1 (by decide) (Nat.le_of_ble_eq_true rfl) rfl ?_
  refine st_iload_n (q := 1) dX6_keep_0 rfl rfl rfl ?_
  refine st_iconst (q := 2) dX6_keep_1 rfl ic_0 ?_
  refine st_iconst (q := 3) dX6_keep_2 rfl ic_1 ?_
  refine sp_S3 (q := 6) (M' := mX6_within) dX6_keep_3 rfl ok_X6_within mk_X6_within ml_X6_51 ⟨Nat.le_of_ble_eq_true rfl, Nat.le_of_ble_eq_true rfl⟩ rfl (Nat.le_of_ble_eq_true rfl) ⟨rfl, rfl⟩ (c_X6_within) ?_
  refine st_if_ne (q := 9) (tgt := 11) dX6_keep_6 rfl rfl (fun c_6 => ?_) (fun c_6 => ?_)
  · obtain ⟨j, hj, rfl⟩ := inI_k (k := 1) (zI_1.mp c_6) (by decide)
    have h1 : inI (nI j) 0 1 = true := zI_1.mp c_6
    have hjc : (nI j).toNatClampNeg = j := nI_clamp (by omega)
    refine st_aload_n (q := 12) dX6_keep_11 rfl rfl rfl ?_
    refine g_get (q := 15) dX6_keep_12 rfl fl_X6_92.g hX.x rfl ?_
    refine st_iload_n (q := 16) dX6_keep_15 rfl rfl rfl ?_
    refine st_ishr (q := 17) dX6_keep_16 rfl ?_
    refine st_iconst (q := 18) dX6_keep_17 rfl ic_1 ?_
    refine st_iand (q := 19) dX6_keep_18 rfl ?_
    refine st_istore_n (q := 20) (L' := [_, _, _]) dX6_keep_19 rfl rfl (Nat.le_of_ble_eq_true rfl) rfl ?_
    refine st_aload_n (q := 21) dX6_keep_20 rfl rfl rfl ?_
    refine g_getO (q := 24) dX6_keep_21 rfl fl_X6_19.g hX.x rfl ?_
    refine st_iload_n (q := 25) dX6_keep_24 rfl rfl rfl ?_
    obtain ⟨gi, hi1, hi2, hi3⟩ := hX.ir
    have hgi : gi j = some (22 + 10 * j) := by
      rcases Nat.lt_or_ge j 1 with z | z
      · obtain rfl : j = 0 := by omega
        exact hi2
      · obtain rfl : j = 1 := by omega
        exact hi3
    have hI := hX.im j (by omega)
    refine st_aaload (q := 26) dX6_keep_25 rfl (by have := hX.hn; omega) hi1 rfl (ev_ix_nI (j := j) (by omega) (by decide)) hgi ?_
    refine st_aload_n (q := 27) dX6_keep_26 rfl rfl rfl ?_
    refine g_getO (q := 30) dX6_keep_27 rfl fl_X6_10.g hX.x rfl ?_
    refine sm_V1 (q := 33) (M' := mX5_copyFrom) dX6_keep_30 rfl ok_X5_copyFrom mk_X5_copyFrom ml_X6_85 ⟨Nat.le_of_ble_eq_true rfl, Nat.le_of_ble_eq_true rfl⟩ rfl (Nat.le_of_ble_eq_true rfl) (g_rv hI rfl) ⟨rfl, rfl⟩ (c_X5_copyFrom hI hX.now (by omega)) ?_
    intro _ n w h9 _
    obtain ⟨rfl, rfl, ⟨hI, _⟩, hF_⟩ := h9
    replace hX := hX.setIm (by omega) hI (by rw [show 32 + 10 * j = 22 + 10 * j + 10 from by omega]; exact hF_)
    replace hF := Fr.tr hF (hF_.mono (by omega) (by omega))
    refine st_aload_n (q := 34) dX6_keep_33 rfl rfl rfl ?_
    refine st_dup (q := 35) dX6_keep_34 rfl rfl ?_
    refine g_get (q := 38) dX6_keep_35 rfl fl_X6_92.g hX.x rfl ?_
    refine st_iconst (q := 39) dX6_keep_38 rfl ic_1 ?_
    refine st_iload_n (q := 40) dX6_keep_39 rfl rfl rfl ?_
    refine st_ishl (q := 41) dX6_keep_40 rfl ?_
    refine st_ior (q := 42) dX6_keep_41 rfl ?_
    refine g_put (q := 45) dX6_keep_42 rfl fl_X6_92 gkX6 hX.x rfl rfl rfl (fun w hZ hF_ => ?_)
    replace hX := hX.setX hZ hF_
    replace hF := Fr.tr hF (hF_.mono (by omega) (by omega))
    refine st_iload_n (q := 46) dX6_keep_45 rfl rfl rfl ?_
    refine st_ireturn dX6_keep_46 rfl ?_
    first
      | exact ⟨by rw [keepS, if_neg (by rw [zI_0.mp c_6]; decide)], rfl, by rw [keepX, keepI, if_neg (by rw [zI_0.mp c_6]; decide), if_neg (by rw [zI_0.mp c_6]; decide)]; exact hX, hF⟩
      | exact ⟨by rw [keepS, if_pos h1], rfl, by rw [keepX, keepI, if_pos h1, if_pos h1, hjc]; exact hX, hF⟩
  · refine st_iconst (q := 10) dX6_keep_9 rfl ic_m1 ?_
    refine st_ireturn dX6_keep_10 rfl ?_
    first
      | exact ⟨by rw [keepS, if_neg (by rw [zI_0.mp c_6]; decide)], rfl, by rw [keepX, keepI, if_neg (by rw [zI_0.mp c_6]; decide), if_neg (by rw [zI_0.mp c_6]; decide)]; exact hX, hF⟩
      | exact ⟨by rw [keepS, if_pos h1], rfl, by rw [keepX, keepI, if_pos h1, if_pos h1, hjc]; exact hX, hF⟩
set_option maxRecDepth 100000 in
set_option maxHeartbeats 4000000 in
theorem c_X6_back {E : ev_E} {X Tn : gT} {Ti : Nat → gT} {Tp Sg : gT} {Sh : Nat → gT} {n : Nat} {w : ev_W} {w0 : ev_W} (hF : Fr 0 70 w0 w) (hX : XI X Tn Ti Tp Sg Sh n w) {x : Int32} : Ct E mX6_back [.ref 0, .int x] n w (ev_xr (backS X Ti x) n w0 (XI X (backT X Ti Tn x) Ti Tp Sg Sh n)) := by
  refine Ct.of 0 (by decide) (Nat.le_of_ble_eq_true rfl) rfl ?_
  refine st_iload_n (q := 1) dX6_back_0 rfl rfl rfl ?_
  refine st_iconst (q := 2) dX6_back_1 rfl ic_0 ?_
  refine st_iconst (q := 3) dX6_back_2 rfl ic_1 ?_
  refine sp_S3 (q := 6) (M' := mX6_within) dX6_back_3 rfl ok_X6_within mk_X6_within ml_X6_51 ⟨Nat.le_of_ble_eq_true rfl, Nat.le_of_ble_eq_true rfl⟩ rfl (Nat.le_of_ble_eq_true rfl) ⟨rfl, rfl⟩ (c_X6_within) ?_
  refine st_if_ne (q := 9) (tgt := 11) dX6_back_6 rfl rfl (fun c_6 => ?_) (fun c_6 => ?_)
  · obtain ⟨j, hj, rfl⟩ := inI_k (k := 1) (zI_1.mp c_6) (by decide)
    have h1 : inI (nI j) 0 1 = true := zI_1.mp c_6
    have hjc : (nI j).toNatClampNeg = j := nI_clamp (by omega)
    refine st_aload_n (q := 12) dX6_back_11 rfl rfl rfl ?_
    refine g_get (q := 15) dX6_back_12 rfl fl_X6_92.g hX.x rfl ?_
    refine st_iload_n (q := 16) dX6_back_15 rfl rfl rfl ?_
    refine st_ishr (q := 17) dX6_back_16 rfl ?_
    refine st_iconst (q := 18) dX6_back_17 rfl ic_1 ?_
    refine st_iand (q := 19) dX6_back_18 rfl ?_
    refine st_if_ne (q := 22) (tgt := 25) dX6_back_19 rfl rfl (fun c_19 => ?_) (fun c_19 => ?_)
    · refine st_aload_n (q := 26) dX6_back_25 rfl rfl rfl ?_
      refine g_getO (q := 29) dX6_back_26 rfl fl_X6_10.g hX.x rfl ?_
      refine st_aload_n (q := 30) dX6_back_29 rfl rfl rfl ?_
      refine g_getO (q := 33) dX6_back_30 rfl fl_X6_19.g hX.x rfl ?_
      refine st_iload_n (q := 34) dX6_back_33 rfl rfl rfl ?_
      obtain ⟨gi, hi1, hi2, hi3⟩ := hX.ir
      have hgi : gi j = some (22 + 10 * j) := by
        rcases Nat.lt_or_ge j 1 with z | z
        · obtain rfl : j = 0 := by omega
          exact hi2
        · obtain rfl : j = 1 := by omega
          exact hi3
      have hI := hX.im j (by omega)
      refine st_aaload (q := 35) dX6_back_34 rfl (by have := hX.hn; omega) hi1 rfl (ev_ix_nI (j := j) (by omega) (by decide)) hgi ?_
      refine sm_V1 (q := 38) (M' := mX5_copyFrom) dX6_back_35 rfl ok_X5_copyFrom mk_X5_copyFrom ml_X6_85 ⟨Nat.le_of_ble_eq_true rfl, Nat.le_of_ble_eq_true rfl⟩ rfl (Nat.le_of_ble_eq_true rfl) (g_rv hX.now rfl) ⟨rfl, rfl⟩ (c_X5_copyFrom hX.now hI (by omega)) ?_
      intro _ n w h9 _
      obtain ⟨rfl, rfl, ⟨hZ, _⟩, hF_⟩ := h9
      replace hX := hX.setNow hZ hF_
      replace hF := Fr.tr hF (hF_.mono (by omega) (by omega))
      refine st_aload_n (q := 39) dX6_back_38 rfl rfl rfl ?_
      refine g_getO (q := 42) dX6_back_39 rfl fl_X6_10.g hX.x rfl ?_
      refine g_get (q := 45) dX6_back_42 rfl fl_X6_101.g hX.now rfl ?_
      refine st_ireturn dX6_back_45 rfl ?_
      first
        | exact ⟨by rw [backS, if_neg (by rw [zI_0.mp c_6]; decide)], rfl, by rw [backT, if_neg (by rw [zI_0.mp c_6]; decide)]; exact hX, hF⟩
        | exact ⟨by rw [backS, if_pos h1, if_pos c_19], rfl, by rw [backT, if_pos h1, if_pos c_19]; exact hX, hF⟩
        | exact ⟨by rw [backS, if_pos h1, if_neg c_19, hjc], rfl, by rw [backT, if_pos h1, if_neg c_19, hjc]; exact hX, hF⟩
    · refine st_bipush (q := 24) dX6_back_22 rfl bp_m2 ?_
      refine st_ireturn dX6_back_24 rfl ?_
      first
        | exact ⟨by rw [backS, if_neg (by rw [zI_0.mp c_6]; decide)], rfl, by rw [backT, if_neg (by rw [zI_0.mp c_6]; decide)]; exact hX, hF⟩
        | exact ⟨by rw [backS, if_pos h1, if_pos c_19], rfl, by rw [backT, if_pos h1, if_pos c_19]; exact hX, hF⟩
        | exact ⟨by rw [backS, if_pos h1, if_neg c_19, hjc], rfl, by rw [backT, if_pos h1, if_neg c_19, hjc]; exact hX, hF⟩
  · refine st_iconst (q := 10) dX6_back_9 rfl ic_m1 ?_
    refine st_ireturn dX6_back_10 rfl ?_
    first
      | exact ⟨by rw [backS, if_neg (by rw [zI_0.mp c_6]; decide)], rfl, by rw [backT, if_neg (by rw [zI_0.mp c_6]; decide)]; exact hX, hF⟩
      | exact ⟨by rw [backS, if_pos h1, if_pos c_19], rfl, by rw [backT, if_pos h1, if_pos c_19]; exact hX, hF⟩
      | exact ⟨by rw [backS, if_pos h1, if_neg c_19, hjc], rfl, by rw [backT, if_pos h1, if_neg c_19, hjc]; exact hX, hF⟩
def sheetS (x y z : Int32) : Int32 := if inI x 0 3 = true then (if inI y 0 2 = true then (if z ≤ 40 then (if z < 0 then -14 else 1) else -1) else -1) else -1
def sheetH (H : Nat → gT) (x y z : Int32) : Nat → gT := if inI x 0 3 = true then (if inI y 0 2 = true then (if z ≤ 40 then (if z < 0 then H else (fun k => if k = x.toNatClampNeg then rnT (H x.toNatClampNeg) y z else H k)) else H) else H) else H
def layS (H : Nat → gT) (x y : Int32) : Int32 := if inI x 0 3 = true then (if faI (H x.toNatClampNeg) (H x.toNatClampNeg 2 0) y = 0 then 1 else -10 - faI (H x.toNatClampNeg) (H x.toNatClampNeg 2 0) y) else -1
def layH (H : Nat → gT) (x y z : Int32) : Nat → gT := if inI x 0 3 = true then (if faI (H x.toNatClampNeg) (H x.toNatClampNeg 2 0) y = 0 then (fun k => if k = x.toNatClampNeg then tup (H x.toNatClampNeg) 0 y.toNatClampNeg (lbI (H x.toNatClampNeg) z) else H k) else H) else H
def HK (H : Nat → gT) : Prop := ∀ k, k < 4 → ∃ s, s ≤ 40 ∧ H k 3 0 = nI s
theorem fa_ix {T : gT} {l i : Int32} {s : Nat} (e : T 3 0 = nI s) (hs : s ≤ 40) (h : faI T l i = 0) : ∃ j, j < s ∧ i = nI j := by
  unfold faI at h
  split at h
  · exact absurd h (by decide)
  · split at h
    · split at h
      · rename_i z
        rw [e] at z
        exact inI_ix z (by omega)
      · exact absurd h (by decide)
    · exact absurd h (by decide)
set_option maxRecDepth 100000 in
set_option maxHeartbeats 4000000 in
theorem c_X6_sheet {E : ev_E} {X Tn : gT} {Ti : Nat → gT} {Tp Sg : gT} {Sh : Nat → gT} {n : Nat} {w : ev_W} {w0 : ev_W} (hF : Fr 0 70 w0 w) (hX : XI X Tn Ti Tp Sg Sh n w) {x y z : Int32} : Ct E mX6_sheet [.ref 0, .int x, .int y, .int z] n w (ev_xr (sheetS x y z) n w0 (XI X Tn Ti Tp Sg (sheetH Sh x y z) n)) := by
  refine Ct.of 0 (by decide) (Nat.le_of_ble_eq_true rfl) rfl ?_
  refine st_iload_n (q := 1) dX6_sheet_0 rfl rfl rfl ?_
  refine sp_S1 (q := 4) (M' := mX6_isSheet) dX6_sheet_1 rfl ok_X6_isSheet mk_X6_isSheet ml_X6_303 ⟨Nat.le_of_ble_eq_true rfl, Nat.le_of_ble_eq_true rfl⟩ rfl (Nat.le_of_ble_eq_true rfl) ⟨rfl, rfl⟩ (c_X6_isSheet) ?_
  refine st_if_eq (q := 7) (tgt := 22) dX6_sheet_4 rfl rfl (fun c_4 => ?_) (fun c_4 => ?_)
  · refine st_iconst (q := 23) dX6_sheet_22 rfl ic_m1 ?_
    refine st_ireturn dX6_sheet_23 rfl ?_
    first
      | exact ⟨by rw [sheetS, if_neg (by rw [zI_0.mp c_4]; decide)], rfl, by rw [sheetH, if_neg (by rw [zI_0.mp c_4]; decide)]; exact hX, hF⟩
      | exact ⟨by rw [sheetS, if_pos (zI_1.mp c_4), if_neg (by rw [zI_0.mp c_13]; decide)], rfl, by rw [sheetH, if_pos (zI_1.mp c_4), if_neg (by rw [zI_0.mp c_13]; decide)]; exact hX, hF⟩
      | exact ⟨by rw [sheetS, if_pos (zI_1.mp c_4), if_pos (zI_1.mp c_13), if_neg c_19], rfl, by rw [sheetH, if_pos (zI_1.mp c_4), if_pos (zI_1.mp c_13), if_neg c_19]; exact hX, hF⟩
      | exact ⟨by rw [sheetS, if_pos (zI_1.mp c_4), if_pos (zI_1.mp c_13), if_pos c_19, if_pos (Int32.not_le.mp c_25)], rfl, by rw [sheetH, if_pos (zI_1.mp c_4), if_pos (zI_1.mp c_13), if_pos c_19, if_pos (Int32.not_le.mp c_25)]; exact hX, hF⟩
      | exact ⟨by rw [sheetS, if_pos h1, if_pos (zI_1.mp c_13), if_pos c_19, if_neg (Int32.not_lt.mpr c_25)], rfl, by rw [sheetH, if_pos h1, if_pos (zI_1.mp c_13), if_pos c_19, if_neg (Int32.not_lt.mpr c_25), hjc]; exact hX, hF⟩
  · refine st_iload_n (q := 8) dX6_sheet_7 rfl rfl rfl ?_
    refine st_iconst (q := 9) dX6_sheet_8 rfl ic_0 ?_
    refine st_iconst (q := 10) dX6_sheet_9 rfl ic_2 ?_
    refine sp_S3 (q := 13) (M' := mX6_within) dX6_sheet_10 rfl ok_X6_within mk_X6_within ml_X6_51 ⟨Nat.le_of_ble_eq_true rfl, Nat.le_of_ble_eq_true rfl⟩ rfl (Nat.le_of_ble_eq_true rfl) ⟨rfl, rfl⟩ (c_X6_within) ?_
    refine st_if_eq (q := 16) (tgt := 22) dX6_sheet_13 rfl rfl (fun c_13 => ?_) (fun c_13 => ?_)
    · refine st_iconst (q := 23) dX6_sheet_22 rfl ic_m1 ?_
      refine st_ireturn dX6_sheet_23 rfl ?_
      first
        | exact ⟨by rw [sheetS, if_neg (by rw [zI_0.mp c_4]; decide)], rfl, by rw [sheetH, if_neg (by rw [zI_0.mp c_4]; decide)]; exact hX, hF⟩
        | exact ⟨by rw [sheetS, if_pos (zI_1.mp c_4), if_neg (by rw [zI_0.mp c_13]; decide)], rfl, by rw [sheetH, if_pos (zI_1.mp c_4), if_neg (by rw [zI_0.mp c_13]; decide)]; exact hX, hF⟩
        | exact ⟨by rw [sheetS, if_pos (zI_1.mp c_4), if_pos (zI_1.mp c_13), if_neg c_19], rfl, by rw [sheetH, if_pos (zI_1.mp c_4), if_pos (zI_1.mp c_13), if_neg c_19]; exact hX, hF⟩
        | exact ⟨by rw [sheetS, if_pos (zI_1.mp c_4), if_pos (zI_1.mp c_13), if_pos c_19, if_pos (Int32.not_le.mp c_25)], rfl, by rw [sheetH, if_pos (zI_1.mp c_4), if_pos (zI_1.mp c_13), if_pos c_19, if_pos (Int32.not_le.mp c_25)]; exact hX, hF⟩
        | exact ⟨by rw [sheetS, if_pos h1, if_pos (zI_1.mp c_13), if_pos c_19, if_neg (Int32.not_lt.mpr c_25)], rfl, by rw [sheetH, if_pos h1, if_pos (zI_1.mp c_13), if_pos c_19, if_neg (Int32.not_lt.mpr c_25), hjc]; exact hX, hF⟩
    · refine st_iload_n (q := 17) dX6_sheet_16 rfl rfl rfl ?_
      refine st_bipush (q := 19) dX6_sheet_17 rfl bp_40 ?_
      refine st_icmp_le (q := 22) (tgt := 24) dX6_sheet_19 rfl rfl (fun c_19 => ?_) (fun c_19 => ?_)
      · refine st_iload_n (q := 25) dX6_sheet_24 rfl rfl rfl ?_
        refine st_if_ge (q := 28) (tgt := 31) dX6_sheet_25 rfl rfl (fun c_25 => ?_) (fun c_25 => ?_)
        · obtain ⟨j, hj, rfl⟩ := inI_k (k := 3) (zI_1.mp c_4) (by decide)
          have h1 : inI (nI j) 0 3 = true := zI_1.mp c_4
          have hjc : (nI j).toNatClampNeg = j := nI_clamp (by omega)
          refine st_aload_n (q := 32) dX6_sheet_31 rfl rfl rfl ?_
          refine g_getO (q := 35) dX6_sheet_32 rfl fl_X6_46.g hX.x rfl ?_
          refine st_iload_n (q := 36) dX6_sheet_35 rfl rfl rfl ?_
          obtain ⟨gs, hs1, hs2⟩ := hX.sr
          have hH := hX.sh j (by omega)
          refine st_aaload (q := 37) dX6_sheet_36 rfl (by have := hX.hn; omega) hs1 rfl (ev_ix_nI (j := j) (by omega) (by decide)) (hs2 j (by omega)) ?_
          refine st_iload_n (q := 38) dX6_sheet_37 rfl rfl rfl ?_
          refine st_iload_n (q := 39) dX6_sheet_38 rfl rfl rfl ?_
          refine sm_V2 (q := 42) (M' := mX2_renew) dX6_sheet_39 rfl ok_X2_renew mk_X2_renew ml_X6_306 ⟨Nat.le_of_ble_eq_true rfl, Nat.le_of_ble_eq_true rfl⟩ rfl (Nat.le_of_ble_eq_true rfl) (g_rv hH rfl) ⟨rfl, rfl⟩ (c_X2_renew hH) ?_
          intro _ n w h9 _
          obtain ⟨rfl, rfl, hH, hF_⟩ := h9
          replace hX := hX.setSh (by omega) hH (by rw [show 64 + 2 * j = 62 + 2 * j + 2 from by omega]; exact hF_)
          replace hF := Fr.tr hF (hF_.mono (by omega) (by omega))
          refine st_iconst (q := 43) dX6_sheet_42 rfl ic_1 ?_
          refine st_ireturn dX6_sheet_43 rfl ?_
          first
            | exact ⟨by rw [sheetS, if_neg (by rw [zI_0.mp c_4]; decide)], rfl, by rw [sheetH, if_neg (by rw [zI_0.mp c_4]; decide)]; exact hX, hF⟩
            | exact ⟨by rw [sheetS, if_pos (zI_1.mp c_4), if_neg (by rw [zI_0.mp c_13]; decide)], rfl, by rw [sheetH, if_pos (zI_1.mp c_4), if_neg (by rw [zI_0.mp c_13]; decide)]; exact hX, hF⟩
            | exact ⟨by rw [sheetS, if_pos (zI_1.mp c_4), if_pos (zI_1.mp c_13), if_neg c_19], rfl, by rw [sheetH, if_pos (zI_1.mp c_4), if_pos (zI_1.mp c_13), if_neg c_19]; exact hX, hF⟩
            | exact ⟨by rw [sheetS, if_pos (zI_1.mp c_4), if_pos (zI_1.mp c_13), if_pos c_19, if_pos (Int32.not_le.mp c_25)], rfl, by rw [sheetH, if_pos (zI_1.mp c_4), if_pos (zI_1.mp c_13), if_pos c_19, if_pos (Int32.not_le.mp c_25)]; exact hX, hF⟩
            | exact ⟨by rw [sheetS, if_pos h1, if_pos (zI_1.mp c_13), if_pos c_19, if_neg (Int32.not_lt.mpr c_25)], rfl, by rw [sheetH, if_pos h1, if_pos (zI_1.mp c_13), if_pos c_19, if_neg (Int32.not_lt.mpr c_25), hjc]; exact hX, hF⟩
        · refine st_bipush (q := 30) dX6_sheet_28 rfl bp_m14 ?_
          refine st_ireturn dX6_sheet_30 rfl ?_
          first
            | exact ⟨by rw [sheetS, if_neg (by rw [zI_0.mp c_4]; decide)], rfl, by rw [sheetH, if_neg (by rw [zI_0.mp c_4]; decide)]; exact hX, hF⟩
            | exact ⟨by rw [sheetS, if_pos (zI_1.mp c_4), if_neg (by rw [zI_0.mp c_13]; decide)], rfl, by rw [sheetH, if_pos (zI_1.mp c_4), if_neg (by rw [zI_0.mp c_13]; decide)]; exact hX, hF⟩
            | exact ⟨by rw [sheetS, if_pos (zI_1.mp c_4), if_pos (zI_1.mp c_13), if_neg c_19], rfl, by rw [sheetH, if_pos (zI_1.mp c_4), if_pos (zI_1.mp c_13), if_neg c_19]; exact hX, hF⟩
            | exact ⟨by rw [sheetS, if_pos (zI_1.mp c_4), if_pos (zI_1.mp c_13), if_pos c_19, if_pos (Int32.not_le.mp c_25)], rfl, by rw [sheetH, if_pos (zI_1.mp c_4), if_pos (zI_1.mp c_13), if_pos c_19, if_pos (Int32.not_le.mp c_25)]; exact hX, hF⟩
            | exact ⟨by rw [sheetS, if_pos h1, if_pos (zI_1.mp c_13), if_pos c_19, if_neg (Int32.not_lt.mpr c_25)], rfl, by rw [sheetH, if_pos h1, if_pos (zI_1.mp c_13), if_pos c_19, if_neg (Int32.not_lt.mpr c_25), hjc]; exact hX, hF⟩
      · refine st_iconst (q := 23) dX6_sheet_22 rfl ic_m1 ?_
        refine st_ireturn dX6_sheet_23 rfl ?_
        first
          | exact ⟨by rw [sheetS, if_neg (by rw [zI_0.mp c_4]; decide)], rfl, by rw [sheetH, if_neg (by rw [zI_0.mp c_4]; decide)]; exact hX, hF⟩
          | exact ⟨by rw [sheetS, if_pos (zI_1.mp c_4), if_neg (by rw [zI_0.mp c_13]; decide)], rfl, by rw [sheetH, if_pos (zI_1.mp c_4), if_neg (by rw [zI_0.mp c_13]; decide)]; exact hX, hF⟩
          | exact ⟨by rw [sheetS, if_pos (zI_1.mp c_4), if_pos (zI_1.mp c_13), if_neg c_19], rfl, by rw [sheetH, if_pos (zI_1.mp c_4), if_pos (zI_1.mp c_13), if_neg c_19]; exact hX, hF⟩
          | exact ⟨by rw [sheetS, if_pos (zI_1.mp c_4), if_pos (zI_1.mp c_13), if_pos c_19, if_pos (Int32.not_le.mp c_25)], rfl, by rw [sheetH, if_pos (zI_1.mp c_4), if_pos (zI_1.mp c_13), if_pos c_19, if_pos (Int32.not_le.mp c_25)]; exact hX, hF⟩
          | exact ⟨by rw [sheetS, if_pos h1, if_pos (zI_1.mp c_13), if_pos c_19, if_neg (Int32.not_lt.mpr c_25)], rfl, by rw [sheetH, if_pos h1, if_pos (zI_1.mp c_13), if_pos c_19, if_neg (Int32.not_lt.mpr c_25), hjc]; exact hX, hF⟩
set_option maxRecDepth 100000 in
set_option maxHeartbeats 4000000 in
theorem c_X6_lay {E : ev_E} {X Tn : gT} {Ti : Nat → gT} {Tp Sg : gT} {Sh : Nat → gT} {n : Nat} {w : ev_W} {w0 : ev_W} (hF : Fr 0 70 w0 w) (hX : XI X Tn Ti Tp Sg Sh n w) (hH : HK Sh) {x y z : Int32} : Ct E mX6_lay [.ref 0, .int x, .int y, .int z] n w (ev_xr (layS Sh x y) n w0 (XI X Tn Ti Tp Sg (layH Sh x y z) n)) := by
  refine Ct.of 2 (by decide) (Nat.le_of_ble_eq_true rfl) rfl ?_
  have hHK := hH
  clear hH
  refine st_iload_n (q := 1) dX6_lay_0 rfl rfl rfl ?_
  refine sp_S1 (q := 4) (M' := mX6_isSheet) dX6_lay_1 rfl ok_X6_isSheet mk_X6_isSheet ml_X6_303 ⟨Nat.le_of_ble_eq_true rfl, Nat.le_of_ble_eq_true rfl⟩ rfl (Nat.le_of_ble_eq_true rfl) ⟨rfl, rfl⟩ (c_X6_isSheet) ?_
  refine st_if_ne (q := 7) (tgt := 9) dX6_lay_4 rfl rfl (fun c_4 => ?_) (fun c_4 => ?_)
  · obtain ⟨j, hj, rfl⟩ := inI_k (k := 3) (zI_1.mp c_4) (by decide)
    have h1 : inI (nI j) 0 3 = true := zI_1.mp c_4
    have hjc : (nI j).toNatClampNeg = j := nI_clamp (by omega)
    refine st_aload_n (q := 10) dX6_lay_9 rfl rfl rfl ?_
    refine g_getO (q := 13) dX6_lay_10 rfl fl_X6_46.g hX.x rfl ?_
    refine st_iload_n (q := 14) dX6_lay_13 rfl rfl rfl ?_
    obtain ⟨gs, hs1, hs2⟩ := hX.sr
    have hH := hX.sh j (by omega)
    refine st_aaload (q := 15) dX6_lay_14 rfl (by have := hX.hn; omega) hs1 rfl (ev_ix_nI (j := j) (by omega) (by decide)) (hs2 j (by omega)) ?_
    refine st_astore (q := 17) (L' := [_, _, _, _, _, _]) dX6_lay_15 rfl (Nat.le_of_ble_eq_true rfl) rfl ?_
    refine st_aload (q := 19) dX6_lay_17 rfl rfl ?_
    refine st_aload (q := 21) dX6_lay_19 rfl rfl ?_
    refine g_get (q := 24) dX6_lay_21 rfl fl_X6_309.g hH rfl ?_
    refine st_iload_n (q := 25) dX6_lay_24 rfl rfl rfl ?_
    refine sp_V2 (q := 28) (M' := mX2_faultAt) dX6_lay_25 rfl ok_X2_faultAt mk_X2_faultAt ml_X6_312 ⟨Nat.le_of_ble_eq_true rfl, Nat.le_of_ble_eq_true rfl⟩ rfl (Nat.le_of_ble_eq_true rfl) (g_rv hH rfl) ⟨rfl, rfl⟩ (c_X2_faultAt hH) ?_
    refine st_istore (q := 30) (L' := [_, _, _, _, _, _]) dX6_lay_28 rfl (Nat.le_of_ble_eq_true rfl) rfl ?_
    refine st_iload (q := 32) dX6_lay_30 rfl rfl ?_
    refine st_if_eq (q := 35) (tgt := 41) dX6_lay_32 rfl rfl (fun c_32 => ?_) (fun c_32 => ?_)
    · obtain ⟨s9, hs9, es9⟩ := hHK j (by omega)
      obtain ⟨i, hi, rfl⟩ := fa_ix es9 hs9 c_32
      have hic : (nI i).toNatClampNeg = i := nI_clamp (by omega)
      refine st_aload (q := 43) dX6_lay_41 rfl rfl ?_
      refine g_getA (q := 46) dX6_lay_43 rfl fl_X6_315 hH rfl ?_
      refine st_iload_n (q := 47) dX6_lay_46 rfl rfl rfl ?_
      refine st_aload (q := 49) dX6_lay_47 rfl rfl ?_
      refine st_iload_n (q := 50) dX6_lay_49 rfl rfl rfl ?_
      refine sp_V1 (q := 53) (M' := mX2_lowestBits) dX6_lay_50 rfl ok_X2_lowestBits mk_X2_lowestBits ml_X6_318 ⟨Nat.le_of_ble_eq_true rfl, Nat.le_of_ble_eq_true rfl⟩ rfl (Nat.le_of_ble_eq_true rfl) (g_rv hH rfl) ⟨rfl, rfl⟩ (c_X2_lowestBits hH) ?_
      refine g_iast (q := 54) dX6_lay_53 rfl gkX2 hH (i := 0) rfl (by exact ev_ix_nI (j := i) (by omega) (by decide)) (fun w hH hF_ => ?_)
      replace hX := hX.setSh (by omega) hH (by rw [show 64 + 2 * j = 62 + 2 * j + 2 from by omega]; exact hF_)
      replace hF := Fr.tr hF (hF_.mono (by omega) (by omega))
      refine st_iconst (q := 55) dX6_lay_54 rfl ic_1 ?_
      refine st_ireturn dX6_lay_55 rfl ?_
      first
        | exact ⟨by rw [layS, if_neg (by rw [zI_0.mp c_4]; decide)], rfl, by rw [layH, if_neg (by rw [zI_0.mp c_4]; decide)]; exact hX, hF⟩
        | exact ⟨by rw [layS, if_pos h1, hjc, if_neg c_32], rfl, by rw [layH, if_pos h1, hjc, if_neg c_32]; exact hX, hF⟩
        | exact ⟨by rw [layS, if_pos h1, hjc, if_pos c_32], rfl, by rw [layH, if_pos h1, hjc, if_pos c_32, hic]; exact hX, hF⟩
    · refine st_bipush (q := 37) dX6_lay_35 rfl bp_m10 ?_
      refine st_iload (q := 39) dX6_lay_37 rfl rfl ?_
      refine st_isub (q := 40) dX6_lay_39 rfl ?_
      refine st_ireturn dX6_lay_40 rfl ?_
      first
        | exact ⟨by rw [layS, if_neg (by rw [zI_0.mp c_4]; decide)], rfl, by rw [layH, if_neg (by rw [zI_0.mp c_4]; decide)]; exact hX, hF⟩
        | exact ⟨by rw [layS, if_pos h1, hjc, if_neg c_32], rfl, by rw [layH, if_pos h1, hjc, if_neg c_32]; exact hX, hF⟩
        | exact ⟨by rw [layS, if_pos h1, hjc, if_pos c_32], rfl, by rw [layH, if_pos h1, hjc, if_pos c_32, hic]; exact hX, hF⟩
  · refine st_iconst (q := 8) dX6_lay_7 rfl ic_m1 ?_
    refine st_ireturn dX6_lay_8 rfl ?_
    first
      | exact ⟨by rw [layS, if_neg (by rw [zI_0.mp c_4]; decide)], rfl, by rw [layH, if_neg (by rw [zI_0.mp c_4]; decide)]; exact hX, hF⟩
      | exact ⟨by rw [layS, if_pos h1, hjc, if_neg c_32], rfl, by rw [layH, if_pos h1, hjc, if_neg c_32]; exact hX, hF⟩
      | exact ⟨by rw [layS, if_pos h1, hjc, if_pos c_32], rfl, by rw [layH, if_pos h1, hjc, if_pos c_32, hic]; exact hX, hF⟩
def smF (f : Nat → Int32) : Nat → Int32
  | 0 => 0
  | k + 1 => smF f k + f k
theorem smF_c {f g : Nat → Int32} : ∀ m, (∀ j, j < m → f j = g j) → smF f m = smF g m
  | 0, _ => rfl
  | m + 1, h => by rw [smF, smF, smF_c m (fun j hj => h j (by omega)), h m (by omega)]
set_option maxRecDepth 100000 in
set_option maxHeartbeats 4000000 in
theorem c_X6_sumOf {E : ev_E} {n : Nat} {w : ev_W} {c len m : Nat} {f : Nat → Int32} (hc : c < n) (hw : w c = aI len f) (hl : len < 1000) (hm : m ≤ len) : Ct E mX6_sumOf [.ref c, .int (nI m)] n w (ev_is (some (.int (smF f m))) n w) := by
  refine Ct.of 2 (by decide) (Nat.le_of_ble_eq_true rfl) rfl ?_
  have lp : ∀ (k i : Nat), i + k = m → Ev E mX6_sumOf 4 [some (.ref c), some (.int (nI m)), some (.int (smF f i)), some (.int (nI i))] [] n w (0, 0) (ev_is (some (.int (smF f m))) n w) := by
    intro k
    induction k with
    | zero =>
      intro i hi
      obtain rfl : i = m := hi
      refine st_iload_n (q := 5) dX6_sumOf_4 rfl rfl rfl ?_
      refine st_iload_n (q := 6) dX6_sumOf_5 rfl rfl rfl ?_
      refine st_icmp_ge (q := 9) (tgt := 27) dX6_sumOf_6 rfl rfl (fun c_6 => ?_) (fun c_6 => False.elim (c_6 (Int32.le_refl _)))
      refine st_iload_n (q := 28) dX6_sumOf_27 rfl rfl rfl ?_
      refine st_ireturn dX6_sumOf_28 rfl ?_
      exact ⟨rfl, rfl, rfl⟩
    | succ k ih =>
      intro i hi
      refine st_iload_n (q := 5) dX6_sumOf_4 rfl rfl rfl ?_
      refine st_iload_n (q := 6) dX6_sumOf_5 rfl rfl rfl ?_
      refine st_icmp_ge (q := 9) (tgt := 27) dX6_sumOf_6 rfl rfl (fun c_6 => False.elim (absurd c_6 (nI_ge (a := i) (b := m) (by omega) (by omega)))) (fun c_6 => ?_)
      refine st_iload_n (q := 10) dX6_sumOf_9 rfl rfl rfl ?_
      refine st_aload_n (q := 11) dX6_sumOf_10 rfl rfl rfl ?_
      refine st_alen (q := 12) (v := nI len) dX6_sumOf_11 rfl hc hw rfl rfl ?_
      refine st_icmp_ge (q := 15) (tgt := 27) dX6_sumOf_12 rfl rfl (fun c_12 => False.elim (absurd c_12 (nI_ge (a := i) (b := len) (by omega) (by omega)))) (fun c_12 => ?_)
      refine st_iload_n (q := 16) dX6_sumOf_15 rfl rfl rfl ?_
      refine st_aload_n (q := 17) dX6_sumOf_16 rfl rfl rfl ?_
      refine st_iload_n (q := 18) dX6_sumOf_17 rfl rfl rfl ?_
      refine st_iaload (q := 19) dX6_sumOf_18 rfl hc hw (ev_ix_nI (j := i) (by omega) (by omega)) ?_
      refine st_iadd (q := 20) dX6_sumOf_19 rfl ?_
      refine st_istore_n (q := 21) (L' := [_, _, _, _]) dX6_sumOf_20 rfl rfl (Nat.le_of_ble_eq_true rfl) rfl ?_
      refine st_iinc (q := 24) (L' := [_, _, _, _]) dX6_sumOf_21 rfl rfl (nI_succ _).symm (Nat.le_of_ble_eq_true rfl) rfl ?_
      refine st_goto (q := 4) dX6_sumOf_24 rfl ?_
      exact ih (i + 1) (by omega)
  refine st_iconst (q := 1) dX6_sumOf_0 rfl ic_0 ?_
  refine st_istore_n (q := 2) (L' := [_, _, _, _]) dX6_sumOf_1 rfl rfl (Nat.le_of_ble_eq_true rfl) rfl ?_
  refine st_iconst (q := 3) dX6_sumOf_2 rfl ic_0 ?_
  refine st_istore_n (q := 4) (L' := [_, _, _, _]) dX6_sumOf_3 rfl rfl (Nat.le_of_ble_eq_true rfl) rfl ?_
  exact lp m 0 (by omega)
theorem g_sum {E : ev_E} {n : Nat} {w : ev_W} {ci : Nat} {lay : gL} {sz : Nat} {T : gT} {b i o len m : Nat} (g : gok lay sz) (h : GR ci lay sz T b n w) (hi : gnth lay i = some (1, o, 0, len)) (hl : len < 1000) (hm : m ≤ len) : Ct E mX6_sumOf [.ref (b + o), .int (nI m)] n w (ev_is (some (.int (smF (T i) m))) n w) := by
  obtain ⟨f, e1, e2⟩ := h.2.2 i o 0 len hi
  have ho := (g.1 i (gnth_lt _ _ _ hi) _ hi rfl).2
  simp only at ho
  rw [← smF_c m (fun j hj => e2 j (by omega))]
  exact c_X6_sumOf (by have := h.1; omega) e1 hl hm
def countS (X T Tp S : gT) (H : Nat → gT) (nh nt : Nat) (x : Int32) : Int32 := if x = 0 then S 2 0 else if x = 1 then bcI (X 3 0) else if x = 2 then Tp 1 0 else if x = 3 then (if H 0 1 0 = 0 then -4 else H 0 3 0) else if x = 4 then smF (T 2) nh else if x = 5 then smF (T 10) nt else -1
set_option maxRecDepth 100000 in
set_option maxHeartbeats 4000000 in
theorem c_X6_count {E : ev_E} {X Tn : gT} {Ti : Nat → gT} {Tp Sg : gT} {Sh : Nat → gT} {n : Nat} {w : ev_W} {w0 : ev_W} (hF : Fr 0 70 w0 w) (hX : XI X Tn Ti Tp Sg Sh n w) {nh nt dd : Nat} (hK : TK Tn nh nt dd) {x : Int32} : Ct E mX6_count [.ref 0, .int x] n w (ev_xr (countS X Tn Tp Sg Sh nh nt x) n w0 (XI X Tn Ti Tp Sg Sh n)) := by
  refine Ct.of 0 (by decide) (Nat.le_of_ble_eq_true rfl) rfl ?_
  refine st_iload_n (q := 1) dX6_count_0 rfl rfl rfl ?_
  refine st_tabK 0 (v := 0) (tgt := 40) dX6_count_1 rfl rfl (by decide) (by decide) (fun c_1_0 => ?_) (fun c_1_0 t_1_0 => ?_)
  · refine st_aload_n (q := 41) dX6_count_40 rfl rfl rfl ?_
    refine g_getO (q := 44) dX6_count_41 rfl fl_X6_33.g hX.x rfl ?_
    refine g_get (q := 47) dX6_count_44 rfl fl_X6_89.g hX.sg rfl ?_
    refine st_ireturn dX6_count_47 rfl ?_
    refine ⟨?_, rfl, hX, hF⟩
    rw [countS]
    simp_all
  refine st_tabK 1 (v := 1) (tgt := 48) dX6_count_1 rfl rfl (by decide) (by decide) (fun c_1_1 => ?_) (fun c_1_1 t_1_1 => ?_)
  · refine st_aload_n (q := 49) dX6_count_48 rfl rfl rfl ?_
    refine g_get (q := 52) dX6_count_49 rfl fl_X6_92.g hX.x rfl ?_
    refine sp_S1 (q := 55) (M' := mJ6_bitCount_0f7a4) dX6_count_52 rfl ok_J6_bitCount_0f7a4 mk_J6_bitCount_0f7a4 ml_X6_291 ⟨Nat.le_of_ble_eq_true rfl, Nat.le_of_ble_eq_true rfl⟩ rfl (Nat.le_of_ble_eq_true rfl) ⟨rfl, rfl⟩ (c_J6_bitCount_0f7a4) ?_
    refine st_ireturn dX6_count_55 rfl ?_
    refine ⟨?_, rfl, hX, hF⟩
    rw [countS]
    simp_all
  refine st_tabK 2 (v := 2) (tgt := 56) dX6_count_1 rfl rfl (by decide) (by decide) (fun c_1_2 => ?_) (fun c_1_2 t_1_2 => ?_)
  · refine st_aload_n (q := 57) dX6_count_56 rfl rfl rfl ?_
    refine g_getO (q := 60) dX6_count_57 rfl fl_X6_26.g hX.x rfl ?_
    refine g_getO (q := 63) dX6_count_60 rfl fl_X6_55 hX.rdx rfl ?_
    refine g_get (q := 66) dX6_count_63 rfl fl_X6_65.g hX.tp rfl ?_
    refine st_ireturn dX6_count_66 rfl ?_
    refine ⟨?_, rfl, hX, hF⟩
    rw [countS]
    simp_all
  refine st_tabK 3 (v := 3) (tgt := 67) dX6_count_1 rfl rfl (by decide) (by decide) (fun c_1_3 => ?_) (fun c_1_3 t_1_3 => ?_)
  · refine st_aload_n (q := 68) dX6_count_67 rfl rfl rfl ?_
    refine g_getO (q := 71) dX6_count_68 rfl fl_X6_46.g hX.x rfl ?_
    refine st_iconst (q := 72) dX6_count_71 rfl ic_0 ?_
    obtain ⟨gs, hs1, hs2⟩ := hX.sr
    have hH := hX.sh 0 (by decide)
    refine st_aaload (q := 73) dX6_count_72 rfl (by have := hX.hn; omega) hs1 rfl (ev_ix_nI (j := 0) (by decide) (by decide)) (hs2 0 (by decide)) ?_
    refine g_get (q := 76) dX6_count_73 rfl fl_X6_324.g hH rfl ?_
    refine st_if_eq (q := 79) (tgt := 91) dX6_count_76 rfl rfl (fun c_76 => ?_) (fun c_76 => ?_)
    · refine st_bipush (q := 93) dX6_count_91 rfl bp_m4 ?_
      refine st_ireturn dX6_count_93 rfl ?_
      refine ⟨?_, rfl, hX, hF⟩
      rw [countS]
      simp_all
    · refine st_aload_n (q := 80) dX6_count_79 rfl rfl rfl ?_
      refine g_getO (q := 83) dX6_count_80 rfl fl_X6_46.g hX.x rfl ?_
      refine st_iconst (q := 84) dX6_count_83 rfl ic_0 ?_
      obtain ⟨gs, hs1, hs2⟩ := hX.sr
      have hH := hX.sh 0 (by decide)
      refine st_aaload (q := 85) dX6_count_84 rfl (by have := hX.hn; omega) hs1 rfl (ev_ix_nI (j := 0) (by decide) (by decide)) (hs2 0 (by decide)) ?_
      refine g_get (q := 88) dX6_count_85 rfl fl_X6_328.g hH rfl ?_
      refine st_goto (q := 93) dX6_count_88 rfl ?_
      refine st_ireturn dX6_count_93 rfl ?_
      refine ⟨?_, rfl, hX, hF⟩
      rw [countS]
      simp_all
  refine st_tabK 4 (v := 4) (tgt := 94) dX6_count_1 rfl rfl (by decide) (by decide) (fun c_1_4 => ?_) (fun c_1_4 t_1_4 => ?_)
  · refine st_aload_n (q := 95) dX6_count_94 rfl rfl rfl ?_
    refine g_getO (q := 98) dX6_count_95 rfl fl_X6_10.g hX.x rfl ?_
    refine g_getA (q := 101) dX6_count_98 rfl fl_X6_209 hX.now rfl ?_
    refine st_aload_n (q := 102) dX6_count_101 rfl rfl rfl ?_
    refine g_getO (q := 105) dX6_count_102 rfl fl_X6_10.g hX.x rfl ?_
    refine g_get (q := 108) dX6_count_105 rfl fl_X6_95.g hX.now rfl ?_
    rw [hK.1]
    refine sp_S2 (q := 111) (M' := mX6_sumOf) dX6_count_108 rfl ok_X6_sumOf mk_X6_sumOf ml_X6_329 ⟨Nat.le_of_ble_eq_true rfl, Nat.le_of_ble_eq_true rfl⟩ rfl (Nat.le_of_ble_eq_true rfl) ⟨rfl, rfl⟩ (g_sum (i := 2) gkX5 hX.now rfl (by decide) hK.2.1) ?_
    refine st_ireturn dX6_count_111 rfl ?_
    refine ⟨?_, rfl, hX, hF⟩
    rw [countS]
    simp_all
  refine st_tabK 5 (v := 5) (tgt := 112) dX6_count_1 rfl rfl (by decide) (by decide) (fun c_1_5 => ?_) (fun c_1_5 t_1_5 => ?_)
  · refine st_aload_n (q := 113) dX6_count_112 rfl rfl rfl ?_
    refine g_getO (q := 116) dX6_count_113 rfl fl_X6_10.g hX.x rfl ?_
    refine g_getA (q := 119) dX6_count_116 rfl fl_X6_149 hX.now rfl ?_
    refine st_aload_n (q := 120) dX6_count_119 rfl rfl rfl ?_
    refine g_getO (q := 123) dX6_count_120 rfl fl_X6_10.g hX.x rfl ?_
    refine g_get (q := 126) dX6_count_123 rfl fl_X6_98.g hX.now rfl ?_
    rw [hK.2.2.1]
    refine sp_S2 (q := 129) (M' := mX6_sumOf) dX6_count_126 rfl ok_X6_sumOf mk_X6_sumOf ml_X6_329 ⟨Nat.le_of_ble_eq_true rfl, Nat.le_of_ble_eq_true rfl⟩ rfl (Nat.le_of_ble_eq_true rfl) ⟨rfl, rfl⟩ (g_sum (i := 10) gkX5 hX.now rfl (by decide) hK.2.2.2.1) ?_
    refine st_ireturn dX6_count_129 rfl ?_
    refine ⟨?_, rfl, hX, hF⟩
    rw [countS]
    simp_all
  refine st_tableOut (tgt := 130) dX6_count_1 (by omega) rfl ?_
  refine st_iconst (q := 131) dX6_count_130 rfl ic_m1 ?_
  refine st_ireturn dX6_count_131 rfl ?_
  refine ⟨?_, rfl, hX, hF⟩
  rw [countS]
  simp_all
def rdF (S : gT) (nt : Nat) (l f : Int32) : Nat → Nat → gT → Int32 × Option (Int32 × gT)
  | 0, j, T => (nI j, some (0, T))
  | k + 1, j, T => if faI S l (f + nI j) = 0 then (if (puT T (S 0 (f + nI j).toNatClampNeg) nt).1 < 0 then (-20 - nI j, none) else rdF S nt l f k (j + 1) (puT T (S 0 (f + nI j).toNatClampNeg) nt).2) else (nI j, some (faI S l (f + nI j), T))
def readR (H : Nat → gT) (T : gT) (nt : Nat) (x y f z : Int32) : Int32 × Option (Int32 × gT) := if inI x 0 3 = true then (if inI y 0 2 = true then (if inI z 0 40 = true then rdF (H x.toNatClampNeg) nt y f z.toNatClampNeg 0 T else (-1, none)) else (-1, none)) else (-1, none)
def rdX (X : gT) (r : Int32 × Option (Int32 × gT)) : gT := match r.2 with
  | none => X
  | some e => tup X 9 0 e.1
def rdT (T : gT) (r : Int32 × Option (Int32 × gT)) : gT := match r.2 with
  | none => T
  | some e => e.2
set_option maxRecDepth 100000 in
set_option maxHeartbeats 4000000 in
theorem c_X6_read {E : ev_E} {X Tn : gT} {Ti : Nat → gT} {Tp Sg : gT} {Sh : Nat → gT} {n : Nat} {w : ev_W} {w0 : ev_W} (hF : Fr 0 70 w0 w) (hX : XI X Tn Ti Tp Sg Sh n w) {nh nt dd : Nat} (hK : TK Tn nh nt dd) (hHK : HK Sh) {x y f z : Int32} : Ct E mX6_read [.ref 0, .int x, .int y, .int f, .int z] n w (ev_xr ((readR Sh Tn nt x y f z).1) n w0 (XI (rdX X (readR Sh Tn nt x y f z)) (rdT Tn (readR Sh Tn nt x y f z)) Ti Tp Sg Sh n)) := by
  refine Ct.of 5 (by decide) (Nat.le_of_ble_eq_true rfl) rfl ?_
  refine st_iload_n (q := 1) dX6_read_0 rfl rfl rfl ?_
  refine sp_S1 (q := 4) (M' := mX6_isSheet) dX6_read_1 rfl ok_X6_isSheet mk_X6_isSheet ml_X6_303 ⟨Nat.le_of_ble_eq_true rfl, Nat.le_of_ble_eq_true rfl⟩ rfl (Nat.le_of_ble_eq_true rfl) ⟨rfl, rfl⟩ (c_X6_isSheet) ?_
  refine st_if_eq (q := 7) (tgt := 27) dX6_read_4 rfl rfl (fun c_4 => ?_) (fun c_4 => ?_)
  · refine st_iconst (q := 28) dX6_read_27 rfl ic_m1 ?_
    refine st_ireturn dX6_read_28 rfl ?_
    first
      | exact (show readR Sh Tn nt x y f z = (-1, none) by rw [readR, if_neg (by rw [zI_0.mp c_4]; decide)]) ▸ ⟨rfl, rfl, hX, hF⟩
      | exact (show readR Sh Tn nt x y f z = (-1, none) by rw [readR, if_pos (zI_1.mp c_4), if_neg (by rw [zI_0.mp c_13]; decide)]) ▸ ⟨rfl, rfl, hX, hF⟩
      | exact (show readR Sh Tn nt x y f z = (-1, none) by rw [readR, if_pos (zI_1.mp c_4), if_pos (zI_1.mp c_13), if_neg (by rw [zI_0.mp c_24]; decide)]) ▸ ⟨rfl, rfl, hX, hF⟩
  · refine st_iload_n (q := 8) dX6_read_7 rfl rfl rfl ?_
    refine st_iconst (q := 9) dX6_read_8 rfl ic_0 ?_
    refine st_iconst (q := 10) dX6_read_9 rfl ic_2 ?_
    refine sp_S3 (q := 13) (M' := mX6_within) dX6_read_10 rfl ok_X6_within mk_X6_within ml_X6_51 ⟨Nat.le_of_ble_eq_true rfl, Nat.le_of_ble_eq_true rfl⟩ rfl (Nat.le_of_ble_eq_true rfl) ⟨rfl, rfl⟩ (c_X6_within) ?_
    refine st_if_eq (q := 16) (tgt := 27) dX6_read_13 rfl rfl (fun c_13 => ?_) (fun c_13 => ?_)
    · refine st_iconst (q := 28) dX6_read_27 rfl ic_m1 ?_
      refine st_ireturn dX6_read_28 rfl ?_
      first
        | exact (show readR Sh Tn nt x y f z = (-1, none) by rw [readR, if_neg (by rw [zI_0.mp c_4]; decide)]) ▸ ⟨rfl, rfl, hX, hF⟩
        | exact (show readR Sh Tn nt x y f z = (-1, none) by rw [readR, if_pos (zI_1.mp c_4), if_neg (by rw [zI_0.mp c_13]; decide)]) ▸ ⟨rfl, rfl, hX, hF⟩
        | exact (show readR Sh Tn nt x y f z = (-1, none) by rw [readR, if_pos (zI_1.mp c_4), if_pos (zI_1.mp c_13), if_neg (by rw [zI_0.mp c_24]; decide)]) ▸ ⟨rfl, rfl, hX, hF⟩
    · refine st_iload (q := 18) dX6_read_16 rfl rfl ?_
      refine st_iconst (q := 19) dX6_read_18 rfl ic_0 ?_
      refine st_bipush (q := 21) dX6_read_19 rfl bp_40 ?_
      refine sp_S3 (q := 24) (M' := mX6_within) dX6_read_21 rfl ok_X6_within mk_X6_within ml_X6_51 ⟨Nat.le_of_ble_eq_true rfl, Nat.le_of_ble_eq_true rfl⟩ rfl (Nat.le_of_ble_eq_true rfl) ⟨rfl, rfl⟩ (c_X6_within) ?_
      refine st_if_ne (q := 27) (tgt := 29) dX6_read_24 rfl rfl (fun c_24 => ?_) (fun c_24 => ?_)
      · obtain ⟨j, hj, rfl⟩ := inI_k (k := 3) (zI_1.mp c_4) (by decide)
        have h1 : inI (nI j) 0 3 = true := zI_1.mp c_4
        have hjc : (nI j).toNatClampNeg = j := nI_clamp (by omega)
        obtain ⟨m, hm, rfl⟩ := inI_k (k := 40) (zI_1.mp c_24) (by decide)
        have h40 : inI (nI m) 0 40 = true := zI_1.mp c_24
        have hmc : (nI m).toNatClampNeg = m := nI_clamp (by omega)
        obtain ⟨s9, hs9, es9⟩ := hHK j (by omega)
        refine st_aload_n (q := 30) dX6_read_29 rfl rfl rfl ?_
        refine g_getO (q := 33) dX6_read_30 rfl fl_X6_46.g hX.x rfl ?_
        refine st_iload_n (q := 34) dX6_read_33 rfl rfl rfl ?_
        obtain ⟨gs, hs1, hs2⟩ := hX.sr
        have hH := hX.sh j (by omega)
        refine st_aaload (q := 35) dX6_read_34 rfl (by have := hX.hn; omega) hs1 rfl (ev_ix_nI (j := j) (by omega) (by decide)) (hs2 j (by omega)) ?_
        refine st_astore (q := 37) (L' := [_, _, _, _, _, _, _, _, _, _]) dX6_read_35 rfl (Nat.le_of_ble_eq_true rfl) rfl ?_
        refine st_aload_n (q := 38) dX6_read_37 rfl rfl rfl ?_
        refine sm_V0 (q := 41) (M' := mX6_copyOfNow) dX6_read_38 rfl ok_X6_copyOfNow mk_X6_copyOfNow ml_X6_196 ⟨Nat.le_of_ble_eq_true rfl, Nat.le_of_ble_eq_true rfl⟩ rfl (Nat.le_of_ble_eq_true rfl) (g_rv hX.x rfl) ⟨rfl, rfl⟩ (c_X6_copyOfNow hX) ?_
        intro _ n w h9 _
        obtain ⟨rfl, rfl, hX, hQ, hF_⟩ := h9
        replace hF := Fr.tr hF (hF_.mono (by omega) (by omega))
        refine st_astore (q := 43) (L' := [_, _, _, _, _, _, _, _, _, _]) dX6_read_41 rfl (Nat.le_of_ble_eq_true rfl) rfl ?_
        refine st_iconst (q := 44) dX6_read_43 rfl ic_0 ?_
        refine st_istore (q := 46) (L' := [_, _, _, _, _, _, _, _, _, _]) dX6_read_44 rfl (Nat.le_of_ble_eq_true rfl) rfl ?_
        refine st_iconst (q := 47) dX6_read_46 rfl ic_0 ?_
        refine st_istore (q := 49) (L' := [_, _, _, _, _, _, _, _, _, _]) dX6_read_47 rfl (Nat.le_of_ble_eq_true rfl) rfl ?_
        refine st_iconst (q := 50) dX6_read_49 rfl ic_0 ?_
        refine st_istore (q := 52) (L' := [_, _, _, _, _, _, _, _, _, _]) dX6_read_50 rfl (Nat.le_of_ble_eq_true rfl) rfl ?_
        have fin : ∀ (w1 : ev_W) (T' : gT) (e c : Int32) (l9 : Option Value), XI X Tn Ti Tp Sg Sh n w1 → Fr 0 70 w0 w1 → TR T' 11 n w1 → readR Sh Tn nt (nI j) y f (nI m) = (c, some (e, T')) → Ev E mX6_read 117 [some (.ref 0), some (.int (nI j)), some (.int y), some (.int f), some (.int (nI m)), some (.ref (62 + 2 * j)), some (.ref 11), some (.int e), some (.int c), l9] [] n w1 (0, 0) (ev_xr ((readR Sh Tn nt (nI j) y f (nI m)).1) n w0 (XI (rdX X (readR Sh Tn nt (nI j) y f (nI m))) (rdT Tn (readR Sh Tn nt (nI j) y f (nI m))) Ti Tp Sg Sh n)) := by
          clear hX hF hQ hH
          intro w T' e c l9 hX hF hQ hR
          refine st_aload_n (q := 118) dX6_read_117 rfl rfl rfl ?_
          refine g_getO (q := 121) dX6_read_118 rfl fl_X6_10.g hX.x rfl ?_
          refine st_aload (q := 123) dX6_read_121 rfl rfl ?_
          refine sm_V1 (q := 126) (M' := mX5_copyFrom) dX6_read_123 rfl ok_X5_copyFrom mk_X5_copyFrom ml_X6_85 ⟨Nat.le_of_ble_eq_true rfl, Nat.le_of_ble_eq_true rfl⟩ rfl (Nat.le_of_ble_eq_true rfl) (g_rv hX.now rfl) ⟨rfl, rfl⟩ (c_X5_copyFrom hX.now hQ (by omega)) ?_
          intro _ n w h9 _
          obtain ⟨rfl, rfl, ⟨hZ, _⟩, hF_⟩ := h9
          replace hX := hX.setNow hZ hF_
          replace hF := Fr.tr hF (hF_.mono (by omega) (by omega))
          refine st_aload_n (q := 127) dX6_read_126 rfl rfl rfl ?_
          refine st_iload (q := 129) dX6_read_127 rfl rfl ?_
          refine g_put (q := 132) dX6_read_129 rfl fl_X6_321 gkX6 hX.x rfl rfl rfl (fun w hZ hF_ => ?_)
          replace hX := hX.setX hZ hF_
          replace hF := Fr.tr hF (hF_.mono (by omega) (by omega))
          refine st_iload (q := 134) dX6_read_132 rfl rfl ?_
          refine st_ireturn dX6_read_134 rfl ?_
          rw [hR]
          exact ⟨rfl, rfl, hX, hF⟩
        have lp : ∀ (k i : Nat), i + k = m → ∀ (w1 : ev_W) (T' : gT), XI X Tn Ti Tp Sg Sh n w1 → Fr 0 70 w0 w1 → TR T' 11 n w1 → TK T' nh nt dd → rdF (Sh j) nt y f k i T' = readR Sh Tn nt (nI j) y f (nI m) → Ev E mX6_read 52 [some (.ref 0), some (.int (nI j)), some (.int y), some (.int f), some (.int (nI m)), some (.ref (62 + 2 * j)), some (.ref 11), some (.int 0), some (.int (nI i)), some (.int (nI i))] [] n w1 (0, 0) (ev_xr ((readR Sh Tn nt (nI j) y f (nI m)).1) n w0 (XI (rdX X (readR Sh Tn nt (nI j) y f (nI m))) (rdT Tn (readR Sh Tn nt (nI j) y f (nI m))) Ti Tp Sg Sh n)) := by
          clear hX hF hQ hH
          intro k
          induction k with
          | zero =>
            intro i hi w T' hX hF hQ hQK hr
            obtain rfl : i = m := hi
            refine st_iload (q := 54) dX6_read_52 rfl rfl ?_
            refine st_iload (q := 56) dX6_read_54 rfl rfl ?_
            refine st_icmp_ge (q := 59) (tgt := 117) dX6_read_56 rfl rfl (fun c_56 => ?_) (fun c_56 => False.elim (c_56 (Int32.le_refl _)))
            exact fin w _ _ _ _ hX hF hQ hr.symm
          | succ k ih =>
            intro i hi w T' hX hF hQ hQK hr
            refine st_iload (q := 54) dX6_read_52 rfl rfl ?_
            refine st_iload (q := 56) dX6_read_54 rfl rfl ?_
            refine st_icmp_ge (q := 59) (tgt := 117) dX6_read_56 rfl rfl (fun c_56 => False.elim (absurd c_56 (nI_ge (a := i) (b := m) (by omega) (by omega)))) (fun c_56 => ?_)
            refine st_iload (q := 61) dX6_read_59 rfl rfl ?_
            refine st_if_ne (q := 64) (tgt := 117) dX6_read_61 rfl rfl (fun c_61 => False.elim (c_61 rfl)) (fun c_61 => ?_)
            have hH := hX.sh j (by omega)
            refine st_aload (q := 66) dX6_read_64 rfl rfl ?_
            refine st_iload_n (q := 67) dX6_read_66 rfl rfl rfl ?_
            refine st_iload_n (q := 68) dX6_read_67 rfl rfl rfl ?_
            refine st_iload (q := 70) dX6_read_68 rfl rfl ?_
            refine st_iadd (q := 71) dX6_read_70 rfl ?_
            refine sp_V2 (q := 74) (M' := mX2_faultAt) dX6_read_71 rfl ok_X2_faultAt mk_X2_faultAt ml_X6_312 ⟨Nat.le_of_ble_eq_true rfl, Nat.le_of_ble_eq_true rfl⟩ rfl (Nat.le_of_ble_eq_true rfl) (g_rv hH rfl) ⟨rfl, rfl⟩ (c_X2_faultAt hH) ?_
            refine st_istore (q := 76) (L' := [_, _, _, _, _, _, _, _, _, _]) dX6_read_74 rfl (Nat.le_of_ble_eq_true rfl) rfl ?_
            refine st_iload (q := 78) dX6_read_76 rfl rfl ?_
            refine st_if_ne (q := 81) (tgt := 111) dX6_read_78 rfl rfl (fun c_78 => ?_) (fun c_78 => ?_)
            · refine st_iinc (q := 114) (L' := [_, _, _, _, _, _, _, _, _, _]) dX6_read_111 rfl rfl (nI_succ _).symm (Nat.le_of_ble_eq_true rfl) rfl ?_
              refine st_goto (q := 52) dX6_read_114 rfl ?_
              refine st_iload (q := 54) dX6_read_52 rfl rfl ?_
              refine st_iload (q := 56) dX6_read_54 rfl rfl ?_
              refine st_icmp_ge (q := 59) (tgt := 117) dX6_read_56 rfl rfl (fun c_56 => ?_) (fun c_56 => ?_)
              · exact fin w _ _ _ _ hX hF hQ (by rw [← hr, rdF, if_neg c_78])
              · refine st_iload (q := 61) dX6_read_59 rfl rfl ?_
                refine st_if_ne (q := 64) (tgt := 117) dX6_read_61 rfl rfl (fun c_61 => ?_) (fun c_61 => False.elim (absurd c_61 c_78))
                exact fin w _ _ _ _ hX hF hQ (by rw [← hr, rdF, if_neg c_78])
            · obtain ⟨g, hg, eg⟩ := fa_ix es9 hs9 c_78
              have hgc : (f + nI i).toNatClampNeg = g := by rw [eg]; exact nI_clamp (by omega)
              refine st_aload (q := 83) dX6_read_81 rfl rfl ?_
              refine st_aload (q := 85) dX6_read_83 rfl rfl ?_
              refine g_getA (q := 88) dX6_read_85 rfl fl_X6_315 hH rfl ?_
              refine st_iload_n (q := 89) dX6_read_88 rfl rfl rfl ?_
              refine st_iload (q := 91) dX6_read_89 rfl rfl ?_
              refine st_iadd (q := 92) dX6_read_91 rfl ?_
              refine g_iald (q := 93) dX6_read_92 rfl gkX2 hH (i := 0) rfl (by rw [eg]; exact ev_ix_nI (j := g) (by omega) (by decide)) ?_
              refine sm_V1 (q := 96) (M' := mX5_putIn) dX6_read_93 rfl ok_X5_putIn mk_X5_putIn ml_X6_183 ⟨Nat.le_of_ble_eq_true rfl, Nat.le_of_ble_eq_true rfl⟩ rfl (Nat.le_of_ble_eq_true rfl) (g_rv hQ rfl) ⟨rfl, rfl⟩ (c_X5_putIn hQ hQK.2.2.1 hQK.2.2.2.1 hQK.2.2.2.2.1) ?_
              intro _ n w h9 _
              obtain ⟨rfl, rfl, hQ, hF_⟩ := h9
              replace hX := hX.setTrial hQ hF_
              replace hF := Fr.tr hF (hF_.mono (by omega) (by omega))
              refine st_if_ge (q := 99) (tgt := 105) dX6_read_96 rfl rfl (fun c_96 => ?_) (fun c_96 => ?_)
              · refine st_iload (q := 107) dX6_read_105 rfl rfl ?_
                refine st_iconst (q := 108) dX6_read_107 rfl ic_1 ?_
                refine st_iadd (q := 109) dX6_read_108 rfl ?_
                refine st_istore (q := 111) (L' := [_, _, _, _, _, _, _, _, _, _]) dX6_read_109 rfl (Nat.le_of_ble_eq_true rfl) rfl ?_
                refine st_iinc (q := 114) (L' := [_, _, _, _, _, _, _, _, _, _]) dX6_read_111 rfl rfl (nI_succ _).symm (Nat.le_of_ble_eq_true rfl) rfl ?_
                refine st_goto (q := 52) dX6_read_114 rfl ?_
                rw [c_78, ← nI_succ]
                refine ih (i + 1) (by omega) w _ hX hF hQ hQK.pu ?_
                rw [← hr, rdF, if_pos c_78, hgc, if_neg (Int32.not_lt.mpr c_96)]
              · refine st_bipush (q := 101) dX6_read_99 rfl bp_m20 ?_
                refine st_iload (q := 103) dX6_read_101 rfl rfl ?_
                refine st_isub (q := 104) dX6_read_103 rfl ?_
                refine st_ireturn dX6_read_104 rfl ?_
                have hR : readR Sh Tn nt (nI j) y f (nI m) = (-20 - nI i, none) := by rw [← hr, rdF, if_pos c_78, hgc, if_pos (Int32.not_le.mp c_96)]
                exact hR ▸ ⟨rfl, rfl, hX, hF⟩
        exact lp m 0 (by omega) w _ hX hF hQ hK (by rw [readR, if_pos h1, if_pos (zI_1.mp c_13), if_pos h40, hjc, hmc])
      · refine st_iconst (q := 28) dX6_read_27 rfl ic_m1 ?_
        refine st_ireturn dX6_read_28 rfl ?_
        first
          | exact (show readR Sh Tn nt x y f z = (-1, none) by rw [readR, if_neg (by rw [zI_0.mp c_4]; decide)]) ▸ ⟨rfl, rfl, hX, hF⟩
          | exact (show readR Sh Tn nt x y f z = (-1, none) by rw [readR, if_pos (zI_1.mp c_4), if_neg (by rw [zI_0.mp c_13]; decide)]) ▸ ⟨rfl, rfl, hX, hF⟩
          | exact (show readR Sh Tn nt x y f z = (-1, none) by rw [readR, if_pos (zI_1.mp c_4), if_pos (zI_1.mp c_13), if_neg (by rw [zI_0.mp c_24]; decide)]) ▸ ⟨rfl, rfl, hX, hF⟩
