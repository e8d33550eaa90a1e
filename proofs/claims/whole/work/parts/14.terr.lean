def inI (v a b : Int32) : Bool := decide (a ≤ v) && decide (v ≤ b)
def bdI (v m : Int32) : Int32 := if 0 < (if v < m then v else m) then (if v < m then v else m) else 0
def btI (x h : Int32) : Bool := !decide ((x >>> (h &&& 31)) &&& 1 = 0)
def fillI (k s : Int32) : Int32 := if k = 1 then 2 * s else if k = 2 then (s + 1) / 2 else if k = 3 then (s + 1) / 2 + 1 else s
def costI (k s : Int32) : Int32 := if k = 2 then 3 * s else if k = 3 then 3 * s + 1 else s
abbrev TR (T : gT) (b n : Nat) (w : ev_W) : Prop := GR 5 layX5 9 T b n w
def thsT (T : gT) (h : Int32) : Nat → Int32
  | 0 => 0
  | i + 1 => thsT T h i ||| (if T 8 i = h then 1 <<< (nI i &&& 31) else 0)
def fsT (T : gT) (s : Int32) : Nat → Int32
  | 0 => 0
  | i + 1 => fsT T s i + (if (s >>> (nI i &&& 31)) &&& 1 = 0 then 0 else fillI (T 7 i) (T 9 i))
def csT (T : gT) (s : Int32) : Nat → Int32
  | 0 => 0
  | i + 1 => csT T s i + (if (s >>> (nI i &&& 31)) &&& 1 = 0 then 0 else costI (T 7 i) (T 10 i))
def fdT (T : gT) (h : Int32) : Nat → Int32
  | 0 => 0
  | i + 1 => fdT T h i + (if T 8 i = h then (if btI (T 11 0) (nI i) = true then fillI (T 7 i) (T 9 i) else 0) else 0)
set_option maxRecDepth 100000 in
set_option maxHeartbeats 4000000 in
theorem c_X6_within {E : ev_E} {n : Nat} {w : ev_W} {v a c : Int32} : Ct E mX6_within [.int v, .int a, .int c] n w (ev_is (some (.int (zI (inI v a c)))) n w) := by
  refine Ct.of 0 (by decide) (Nat.le_of_ble_eq_true rfl) rfl ?_
  refine st_iload_n (q := 1) dX6_within_0 rfl rfl rfl ?_
  refine st_iload_n (q := 2) dX6_within_1 rfl rfl rfl ?_
  refine st_icmp_lt (q := 5) (tgt := 14) dX6_within_2 rfl rfl (fun c_2 => ?_) (fun c_2 => ?_)
  · refine st_iconst (q := 15) dX6_within_14 rfl ic_0 ?_
    refine st_nreturn dX6_within_15 rfl (by rfl) ?_
    refine ⟨?_, rfl, rfl⟩
    first | (have z := Int32.not_le.mpr c_2; simp [inI, zI, z]; done) | (simp_all [inI, zI]; done)
  · refine st_iload_n (q := 6) dX6_within_5 rfl rfl rfl ?_
    refine st_iload_n (q := 7) dX6_within_6 rfl rfl rfl ?_
    refine st_icmp_gt (q := 10) (tgt := 14) dX6_within_7 rfl rfl (fun c_7 => ?_) (fun c_7 => ?_)
    · refine st_iconst (q := 15) dX6_within_14 rfl ic_0 ?_
      refine st_nreturn dX6_within_15 rfl (by rfl) ?_
      refine ⟨?_, rfl, rfl⟩
      first | (have z := Int32.not_le.mpr c_2; simp [inI, zI, z]; done) | (simp_all [inI, zI]; done)
    · refine st_iconst (q := 11) dX6_within_10 rfl ic_1 ?_
      refine st_goto (q := 15) dX6_within_11 rfl ?_
      refine st_nreturn dX6_within_15 rfl (by rfl) ?_
      refine ⟨?_, rfl, rfl⟩
      first | (have z := Int32.not_le.mpr c_2; simp [inI, zI, z]; done) | (simp_all [inI, zI]; done)
set_option maxRecDepth 100000 in
set_option maxHeartbeats 4000000 in
theorem c_X6_bounded {E : ev_E} {n : Nat} {w : ev_W} {v a : Int32} : Ct E mX6_bounded [.int v, .int a] n w (ev_is (some (.int (bdI v a))) n w) := by
  refine Ct.of 0 (by decide) (Nat.le_of_ble_eq_true rfl) rfl ?_
  refine st_iconst (q := 1) dX6_bounded_0 rfl ic_0 ?_
  refine st_iload_n (q := 2) dX6_bounded_1 rfl rfl rfl ?_
  refine st_iload_n (q := 3) dX6_bounded_2 rfl rfl rfl ?_
  refine st_mmin (q := 6) dX6_bounded_3 rfl ml_X6_333 jm_min_s jm_i jm_min_c (Nat.le_of_ble_eq_true rfl) (Nat.le_of_ble_eq_true rfl) (Nat.le_of_ble_eq_true rfl) ?_
  refine st_mmax (q := 9) dX6_bounded_6 rfl ml_X6_200 jm_max_s jm_i jm_max_c (Nat.le_of_ble_eq_true rfl) (Nat.le_of_ble_eq_true rfl) (Nat.le_of_ble_eq_true rfl) ?_
  refine st_ireturn dX6_bounded_9 rfl ?_
  exact ⟨rfl, rfl, rfl⟩
set_option maxRecDepth 100000 in
set_option maxHeartbeats 4000000 in
theorem c_X5_isHouse {E : ev_E} {n : Nat} {w : ev_W} {T : gT} {b : Nat} (hT : TR T b n w) {x : Int32} : Ct E mX5_isHouse [.ref b, .int x] n w (ev_is (some (.int (zI (inI x 0 (T 0 0 - 1))))) n w) := by
  refine Ct.of 0 (by decide) (Nat.le_of_ble_eq_true rfl) rfl ?_
  refine st_iload_n (q := 1) dX5_isHouse_0 rfl rfl rfl ?_
  refine st_iconst (q := 2) dX5_isHouse_1 rfl ic_0 ?_
  refine st_aload_n (q := 3) dX5_isHouse_2 rfl rfl rfl ?_
  refine g_get (q := 6) dX5_isHouse_3 rfl fl_X5_49.g hT rfl ?_
  refine st_iconst (q := 7) dX5_isHouse_6 rfl ic_1 ?_
  refine st_isub (q := 8) dX5_isHouse_7 rfl ?_
  refine sp_SN3 (q := 11) (M' := mX6_within) dX5_isHouse_8 rfl ok_X6_within mk_X6_within ml_X5_89 ⟨Nat.le_of_ble_eq_true rfl, Nat.le_of_ble_eq_true rfl⟩ rfl (Nat.le_of_ble_eq_true rfl) ⟨rfl, rfl⟩ (c_X6_within) ?_
  refine st_nreturn dX5_isHouse_11 rfl (by exact zI_nar _) ?_
  exact ⟨rfl, rfl, rfl⟩
set_option maxRecDepth 100000 in
set_option maxHeartbeats 4000000 in
theorem c_X5_isThing {E : ev_E} {n : Nat} {w : ev_W} {T : gT} {b : Nat} (hT : TR T b n w) {x : Int32} : Ct E mX5_isThing [.ref b, .int x] n w (ev_is (some (.int (zI (inI x 0 (T 6 0 - 1))))) n w) := by
  refine Ct.of 0 (by decide) (Nat.le_of_ble_eq_true rfl) rfl ?_
  refine st_iload_n (q := 1) dX5_isThing_0 rfl rfl rfl ?_
  refine st_iconst (q := 2) dX5_isThing_1 rfl ic_0 ?_
  refine st_aload_n (q := 3) dX5_isThing_2 rfl rfl rfl ?_
  refine g_get (q := 6) dX5_isThing_3 rfl fl_X5_52.g hT rfl ?_
  refine st_iconst (q := 7) dX5_isThing_6 rfl ic_1 ?_
  refine st_isub (q := 8) dX5_isThing_7 rfl ?_
  refine sp_SN3 (q := 11) (M' := mX6_within) dX5_isThing_8 rfl ok_X6_within mk_X6_within ml_X5_89 ⟨Nat.le_of_ble_eq_true rfl, Nat.le_of_ble_eq_true rfl⟩ rfl (Nat.le_of_ble_eq_true rfl) ⟨rfl, rfl⟩ (c_X6_within) ?_
  refine st_nreturn dX5_isThing_11 rfl (by exact zI_nar _) ?_
  exact ⟨rfl, rfl, rfl⟩
set_option maxRecDepth 100000 in
set_option maxHeartbeats 4000000 in
theorem c_X5_isAfloat {E : ev_E} {n : Nat} {w : ev_W} {T : gT} {b : Nat} (hT : TR T b n w) {x : Int32} : Ct E mX5_isAfloat [.ref b, .int x] n w (ev_is (some (.int (zI (btI (T 5 0) x)))) n w) := by
  refine Ct.of 0 (by decide) (Nat.le_of_ble_eq_true rfl) rfl ?_
  refine st_aload_n (q := 1) dX5_isAfloat_0 rfl rfl rfl ?_
  refine g_get (q := 4) dX5_isAfloat_1 rfl fl_X5_55.g hT rfl ?_
  refine st_iload_n (q := 5) dX5_isAfloat_4 rfl rfl rfl ?_
  refine st_ishr (q := 6) dX5_isAfloat_5 rfl ?_
  refine st_iconst (q := 7) dX5_isAfloat_6 rfl ic_1 ?_
  refine st_iand (q := 8) dX5_isAfloat_7 rfl ?_
  refine st_if_eq (q := 11) (tgt := 15) dX5_isAfloat_8 rfl rfl (fun c_8 => ?_) (fun c_8 => ?_)
  · refine st_iconst (q := 16) dX5_isAfloat_15 rfl ic_0 ?_
    refine st_nreturn dX5_isAfloat_16 rfl (by rfl) ?_
    exact ⟨by simp_all [btI, zI], rfl, rfl⟩
  · refine st_iconst (q := 12) dX5_isAfloat_11 rfl ic_1 ?_
    refine st_goto (q := 16) dX5_isAfloat_12 rfl ?_
    refine st_nreturn dX5_isAfloat_16 rfl (by rfl) ?_
    exact ⟨by simp_all [btI, zI], rfl, rfl⟩
set_option maxRecDepth 100000 in
set_option maxHeartbeats 4000000 in
theorem c_X5_isIn {E : ev_E} {n : Nat} {w : ev_W} {T : gT} {b : Nat} (hT : TR T b n w) {x : Int32} : Ct E mX5_isIn [.ref b, .int x] n w (ev_is (some (.int (zI (btI (T 11 0) x)))) n w) := by
  refine Ct.of 0 (by decide) (Nat.le_of_ble_eq_true rfl) rfl ?_
  refine st_aload_n (q := 1) dX5_isIn_0 rfl rfl rfl ?_
  refine g_get (q := 4) dX5_isIn_1 rfl fl_X5_58.g hT rfl ?_
  refine st_iload_n (q := 5) dX5_isIn_4 rfl rfl rfl ?_
  refine st_ishr (q := 6) dX5_isIn_5 rfl ?_
  refine st_iconst (q := 7) dX5_isIn_6 rfl ic_1 ?_
  refine st_iand (q := 8) dX5_isIn_7 rfl ?_
  refine st_if_eq (q := 11) (tgt := 15) dX5_isIn_8 rfl rfl (fun c_8 => ?_) (fun c_8 => ?_)
  · refine st_iconst (q := 16) dX5_isIn_15 rfl ic_0 ?_
    refine st_nreturn dX5_isIn_16 rfl (by rfl) ?_
    exact ⟨by simp_all [btI, zI], rfl, rfl⟩
  · refine st_iconst (q := 12) dX5_isIn_11 rfl ic_1 ?_
    refine st_goto (q := 16) dX5_isIn_12 rfl ?_
    refine st_nreturn dX5_isIn_16 rfl (by rfl) ?_
    exact ⟨by simp_all [btI, zI], rfl, rfl⟩
set_option maxRecDepth 100000 in
set_option maxHeartbeats 4000000 in
theorem c_X5_isGone {E : ev_E} {n : Nat} {w : ev_W} {T : gT} {b : Nat} (hT : TR T b n w) {x : Int32} : Ct E mX5_isGone [.ref b, .int x] n w (ev_is (some (.int (zI (btI (T 12 0) x)))) n w) := by
  refine Ct.of 0 (by decide) (Nat.le_of_ble_eq_true rfl) rfl ?_
  refine st_aload_n (q := 1) dX5_isGone_0 rfl rfl rfl ?_
  refine g_get (q := 4) dX5_isGone_1 rfl fl_X5_61.g hT rfl ?_
  refine st_iload_n (q := 5) dX5_isGone_4 rfl rfl rfl ?_
  refine st_ishr (q := 6) dX5_isGone_5 rfl ?_
  refine st_iconst (q := 7) dX5_isGone_6 rfl ic_1 ?_
  refine st_iand (q := 8) dX5_isGone_7 rfl ?_
  refine st_if_eq (q := 11) (tgt := 15) dX5_isGone_8 rfl rfl (fun c_8 => ?_) (fun c_8 => ?_)
  · refine st_iconst (q := 16) dX5_isGone_15 rfl ic_0 ?_
    refine st_nreturn dX5_isGone_16 rfl (by rfl) ?_
    exact ⟨by simp_all [btI, zI], rfl, rfl⟩
  · refine st_iconst (q := 12) dX5_isGone_11 rfl ic_1 ?_
    refine st_goto (q := 16) dX5_isGone_12 rfl ?_
    refine st_nreturn dX5_isGone_16 rfl (by rfl) ?_
    exact ⟨by simp_all [btI, zI], rfl, rfl⟩
def whI (T : gT) (x : Int32) : Int32 := if btI (T 12 0) x = true then 2 else if btI (T 11 0) x = true then 1 else 0
set_option maxRecDepth 100000 in
set_option maxHeartbeats 4000000 in
theorem c_X5_whereIs {E : ev_E} {n : Nat} {w : ev_W} {T : gT} {b : Nat} (hT : TR T b n w) {x : Int32} : Ct E mX5_whereIs [.ref b, .int x] n w (ev_is (some (.int (whI T x))) n w) := by
  refine Ct.of 0 (by decide) (Nat.le_of_ble_eq_true rfl) rfl ?_
  refine st_aload_n (q := 1) dX5_whereIs_0 rfl rfl rfl ?_
  refine st_iload_n (q := 2) dX5_whereIs_1 rfl rfl rfl ?_
  refine sp_V1 (q := 5) (M' := mX5_isGone) dX5_whereIs_2 rfl ok_X5_isGone mk_X5_isGone ml_X5_97 ⟨Nat.le_of_ble_eq_true rfl, Nat.le_of_ble_eq_true rfl⟩ rfl (Nat.le_of_ble_eq_true rfl) (g_rv hT rfl) ⟨rfl, rfl⟩ (c_X5_isGone hT) ?_
  refine st_if_eq (q := 8) (tgt := 10) dX5_whereIs_5 rfl rfl (fun c_5 => ?_) (fun c_5 => ?_)
  · refine st_aload_n (q := 11) dX5_whereIs_10 rfl rfl rfl ?_
    refine st_iload_n (q := 12) dX5_whereIs_11 rfl rfl rfl ?_
    refine sp_V1 (q := 15) (M' := mX5_isIn) dX5_whereIs_12 rfl ok_X5_isIn mk_X5_isIn ml_X5_100 ⟨Nat.le_of_ble_eq_true rfl, Nat.le_of_ble_eq_true rfl⟩ rfl (Nat.le_of_ble_eq_true rfl) (g_rv hT rfl) ⟨rfl, rfl⟩ (c_X5_isIn hT) ?_
    refine st_if_eq (q := 18) (tgt := 22) dX5_whereIs_15 rfl rfl (fun c_15 => ?_) (fun c_15 => ?_)
    · refine st_iconst (q := 23) dX5_whereIs_22 rfl ic_0 ?_
      refine st_ireturn dX5_whereIs_23 rfl ?_
      exact ⟨by simp_all [whI, zI_0], rfl, rfl⟩
    · refine st_iconst (q := 19) dX5_whereIs_18 rfl ic_1 ?_
      refine st_goto (q := 23) dX5_whereIs_19 rfl ?_
      refine st_ireturn dX5_whereIs_23 rfl ?_
      exact ⟨by simp_all [whI, zI_0], rfl, rfl⟩
  · refine st_iconst (q := 9) dX5_whereIs_8 rfl ic_2 ?_
    refine st_ireturn dX5_whereIs_9 rfl ?_
    exact ⟨by simp_all [whI, zI_0], rfl, rfl⟩
set_option maxRecDepth 100000 in
set_option maxHeartbeats 4000000 in
theorem c_X5_fillOf {E : ev_E} {n : Nat} {w : ev_W} {T : gT} {b : Nat} (hT : TR T b n w) {x : Int32} {j : Nat} (hx : ev_ix x 8 j) : Ct E mX5_fillOf [.ref b, .int x] n w (ev_is (some (.int (fillI (T 7 j) (T 9 j)))) n w) := by
  refine Ct.of 2 (by decide) (Nat.le_of_ble_eq_true rfl) rfl ?_
  refine st_aload_n (q := 1) dX5_fillOf_0 rfl rfl rfl ?_
  refine g_getA (q := 4) dX5_fillOf_1 rfl fl_X5_30.g hT rfl ?_
  refine st_iload_n (q := 5) dX5_fillOf_4 rfl rfl rfl ?_
  refine g_iald (q := 6) dX5_fillOf_5 rfl gkX5 hT (i := 9) rfl (by first | assumption | exact ev_ix_nI (by omega) (by decide)) ?_
  refine st_istore_n (q := 7) (L' := [_, _, _, _]) dX5_fillOf_6 rfl rfl (Nat.le_of_ble_eq_true rfl) rfl ?_
  refine st_iload_n (q := 8) dX5_fillOf_7 rfl rfl rfl ?_
  refine st_iconst (q := 9) dX5_fillOf_8 rfl ic_1 ?_
  refine st_iadd (q := 10) dX5_fillOf_9 rfl ?_
  refine st_iconst (q := 11) dX5_fillOf_10 rfl ic_2 ?_
  refine st_idiv (q := 12) dX5_fillOf_11 rfl (by decide) ?_
  refine st_istore_n (q := 13) (L' := [_, _, _, _]) dX5_fillOf_12 rfl rfl (Nat.le_of_ble_eq_true rfl) rfl ?_
  refine st_aload_n (q := 14) dX5_fillOf_13 rfl rfl rfl ?_
  refine g_getA (q := 17) dX5_fillOf_14 rfl fl_X5_24.g hT rfl ?_
  refine st_iload_n (q := 18) dX5_fillOf_17 rfl rfl rfl ?_
  refine g_iald (q := 19) dX5_fillOf_18 rfl gkX5 hT (i := 7) rfl (by first | assumption | exact ev_ix_nI (by omega) (by decide)) ?_
  refine st_tabK 0 (v := 1) (tgt := 44) dX5_fillOf_19 rfl rfl (by decide) (by decide) (fun c_19_0 => ?_) (fun c_19_0 t_19_0 => ?_)
  · refine st_iconst (q := 45) dX5_fillOf_44 rfl ic_2 ?_
    refine st_iload_n (q := 46) dX5_fillOf_45 rfl rfl rfl ?_
    refine st_imul (q := 47) dX5_fillOf_46 rfl ?_
    refine st_ireturn dX5_fillOf_47 rfl ?_
    exact ⟨by simp_all [fillI], rfl, rfl⟩
  refine st_tabK 1 (v := 2) (tgt := 48) dX5_fillOf_19 rfl rfl (by decide) (by decide) (fun c_19_1 => ?_) (fun c_19_1 t_19_1 => ?_)
  · refine st_iload_n (q := 49) dX5_fillOf_48 rfl rfl rfl ?_
    refine st_ireturn dX5_fillOf_49 rfl ?_
    exact ⟨by simp_all [fillI], rfl, rfl⟩
  refine st_tabK 2 (v := 3) (tgt := 50) dX5_fillOf_19 rfl rfl (by decide) (by decide) (fun c_19_2 => ?_) (fun c_19_2 t_19_2 => ?_)
  · refine st_iload_n (q := 51) dX5_fillOf_50 rfl rfl rfl ?_
    refine st_iconst (q := 52) dX5_fillOf_51 rfl ic_1 ?_
    refine st_iadd (q := 53) dX5_fillOf_52 rfl ?_
    refine st_ireturn dX5_fillOf_53 rfl ?_
    exact ⟨by simp_all [fillI], rfl, rfl⟩
  refine st_tableOut (tgt := 54) dX5_fillOf_19 (by omega) rfl ?_
  refine st_iload_n (q := 55) dX5_fillOf_54 rfl rfl rfl ?_
  refine st_ireturn dX5_fillOf_55 rfl ?_
  exact ⟨by simp_all [fillI], rfl, rfl⟩
set_option maxRecDepth 100000 in
set_option maxHeartbeats 4000000 in
theorem c_X5_costOf {E : ev_E} {n : Nat} {w : ev_W} {T : gT} {b : Nat} (hT : TR T b n w) {x : Int32} {j : Nat} (hx : ev_ix x 8 j) : Ct E mX5_costOf [.ref b, .int x] n w (ev_is (some (.int (costI (T 7 j) (T 10 j)))) n w) := by
  refine Ct.of 1 (by decide) (Nat.le_of_ble_eq_true rfl) rfl ?_
  refine st_aload_n (q := 1) dX5_costOf_0 rfl rfl rfl ?_
  refine g_getA (q := 4) dX5_costOf_1 rfl fl_X5_33.g hT rfl ?_
  refine st_iload_n (q := 5) dX5_costOf_4 rfl rfl rfl ?_
  refine g_iald (q := 6) dX5_costOf_5 rfl gkX5 hT (i := 10) rfl (by first | assumption | exact ev_ix_nI (by omega) (by decide)) ?_
  refine st_istore_n (q := 7) (L' := [_, _, _]) dX5_costOf_6 rfl rfl (Nat.le_of_ble_eq_true rfl) rfl ?_
  refine st_aload_n (q := 8) dX5_costOf_7 rfl rfl rfl ?_
  refine g_getA (q := 11) dX5_costOf_8 rfl fl_X5_24.g hT rfl ?_
  refine st_iload_n (q := 12) dX5_costOf_11 rfl rfl rfl ?_
  refine g_iald (q := 13) dX5_costOf_12 rfl gkX5 hT (i := 7) rfl (by first | assumption | exact ev_ix_nI (by omega) (by decide)) ?_
  refine st_lkK (v := 2) (key := 2) (tgt := 40) dX5_costOf_13 rfl (by decide) rfl rfl (fun c_13_0 => ?_) (fun c_13_0 t_13_0 => ?_)
  · refine st_iconst (q := 41) dX5_costOf_40 rfl ic_3 ?_
    refine st_iload_n (q := 42) dX5_costOf_41 rfl rfl rfl ?_
    refine st_imul (q := 43) dX5_costOf_42 rfl ?_
    refine st_ireturn dX5_costOf_43 rfl ?_
    exact ⟨by simp_all [costI], rfl, rfl⟩
  refine st_lkK (v := 3) (key := 3) (tgt := 44) dX5_costOf_13 rfl (by decide) rfl rfl (fun c_13_1 => ?_) (fun c_13_1 t_13_1 => ?_)
  · refine st_iconst (q := 45) dX5_costOf_44 rfl ic_3 ?_
    refine st_iload_n (q := 46) dX5_costOf_45 rfl rfl rfl ?_
    refine st_imul (q := 47) dX5_costOf_46 rfl ?_
    refine st_iconst (q := 48) dX5_costOf_47 rfl ic_1 ?_
    refine st_iadd (q := 49) dX5_costOf_48 rfl ?_
    refine st_ireturn dX5_costOf_49 rfl ?_
    exact ⟨by simp_all [costI], rfl, rfl⟩
  refine st_lookup (tgt := 50) (off := 37) dX5_costOf_13 rfl (by simp [Op.lookupswitch.offset, t_13_0, t_13_1]) rfl ?_
  refine st_iload_n (q := 51) dX5_costOf_50 rfl rfl rfl ?_
  refine st_ireturn dX5_costOf_51 rfl ?_
  exact ⟨by simp_all [costI], rfl, rfl⟩
set_option maxRecDepth 100000 in
set_option maxHeartbeats 4000000 in
theorem c_X5_thingsOf {E : ev_E} {n : Nat} {w : ev_W} {T : gT} {b : Nat} (hT : TR T b n w) {nt : Nat} (e6 : T 6 0 = nI nt) (hnt : nt ≤ 8) {h : Int32} : Ct E mX5_thingsOf [.ref b, .int h] n w (ev_is (some (.int (thsT T h nt))) n w) := by
  refine Ct.of 2 (by decide) (Nat.le_of_ble_eq_true rfl) rfl ?_
  have lp : ∀ (k i : Nat), i + k = nt → Ev E mX5_thingsOf 4 [some (.ref b), some (.int h), some (.int (thsT T h i)), some (.int (nI i))] [] n w (0, 0) (ev_is (some (.int (thsT T h nt))) n w) := by
    intro k
    induction k with
    | zero =>
      intro i hi
      obtain rfl : i = nt := hi
      refine st_iload_n (q := 5) dX5_thingsOf_4 rfl rfl rfl ?_
      refine st_aload_n (q := 6) dX5_thingsOf_5 rfl rfl rfl ?_
      refine g_get (q := 9) dX5_thingsOf_6 rfl fl_X5_52.g hT rfl ?_
      refine st_icmp_ge (q := 12) (tgt := 38) dX5_thingsOf_9 rfl rfl (fun c_9 => ?_) (fun c_9 => False.elim (c_9 (by rw [e6]; exact nI_le (by omega) (by omega))))
      refine st_iload_n (q := 39) dX5_thingsOf_38 rfl rfl rfl ?_
      refine st_ireturn dX5_thingsOf_39 rfl ?_
      exact ⟨rfl, rfl, rfl⟩
    | succ k ih =>
      intro i hi
      refine st_iload_n (q := 5) dX5_thingsOf_4 rfl rfl rfl ?_
      refine st_aload_n (q := 6) dX5_thingsOf_5 rfl rfl rfl ?_
      refine g_get (q := 9) dX5_thingsOf_6 rfl fl_X5_52.g hT rfl ?_
      refine st_icmp_ge (q := 12) (tgt := 38) dX5_thingsOf_9 rfl rfl (fun c_9 => False.elim (absurd (by rw [← e6]; exact c_9) (nI_ge (a := i) (b := nt) (by omega) (by omega)))) (fun c_9 => ?_)
      refine st_iload_n (q := 13) dX5_thingsOf_12 rfl rfl rfl ?_
      refine st_aload_n (q := 14) dX5_thingsOf_13 rfl rfl rfl ?_
      refine g_getA (q := 17) dX5_thingsOf_14 rfl fl_X5_27.g hT rfl ?_
      refine st_iload_n (q := 18) dX5_thingsOf_17 rfl rfl rfl ?_
      refine g_iald (q := 19) dX5_thingsOf_18 rfl gkX5 hT (i := 8) rfl (by first | assumption | exact ev_ix_nI (by omega) (by decide)) ?_
      refine st_iload_n (q := 20) dX5_thingsOf_19 rfl rfl rfl ?_
      refine st_icmp_ne (q := 23) (tgt := 29) dX5_thingsOf_20 rfl rfl (fun c_20 => ?_) (fun c_20 => ?_)
      · refine st_iconst (q := 30) dX5_thingsOf_29 rfl ic_0 ?_
        refine st_ior (q := 31) dX5_thingsOf_30 rfl ?_
        refine st_istore_n (q := 32) (L' := [_, _, _, _]) dX5_thingsOf_31 rfl rfl (Nat.le_of_ble_eq_true rfl) rfl ?_
        refine st_iinc (q := 35) (L' := [_, _, _, _]) dX5_thingsOf_32 rfl rfl (nI_succ _).symm (Nat.le_of_ble_eq_true rfl) rfl ?_
        refine st_goto (q := 4) dX5_thingsOf_35 rfl ?_
        have K := ih (i + 1) (by omega)
        first | (rw [thsT, if_pos c_20] at K; exact K) | (rw [thsT, if_neg c_20] at K; exact K)
      · refine st_iconst (q := 24) dX5_thingsOf_23 rfl ic_1 ?_
        refine st_iload_n (q := 25) dX5_thingsOf_24 rfl rfl rfl ?_
        refine st_ishl (q := 26) dX5_thingsOf_25 rfl ?_
        refine st_goto (q := 30) dX5_thingsOf_26 rfl ?_
        refine st_ior (q := 31) dX5_thingsOf_30 rfl ?_
        refine st_istore_n (q := 32) (L' := [_, _, _, _]) dX5_thingsOf_31 rfl rfl (Nat.le_of_ble_eq_true rfl) rfl ?_
        refine st_iinc (q := 35) (L' := [_, _, _, _]) dX5_thingsOf_32 rfl rfl (nI_succ _).symm (Nat.le_of_ble_eq_true rfl) rfl ?_
        refine st_goto (q := 4) dX5_thingsOf_35 rfl ?_
        have K := ih (i + 1) (by omega)
        first | (rw [thsT, if_pos c_20] at K; exact K) | (rw [thsT, if_neg c_20] at K; exact K)
  refine st_iconst (q := 1) dX5_thingsOf_0 rfl ic_0 ?_
  refine st_istore_n (q := 2) (L' := [_, _, _, _]) dX5_thingsOf_1 rfl rfl (Nat.le_of_ble_eq_true rfl) rfl ?_
  refine st_iconst (q := 3) dX5_thingsOf_2 rfl ic_0 ?_
  refine st_istore_n (q := 4) (L' := [_, _, _, _]) dX5_thingsOf_3 rfl rfl (Nat.le_of_ble_eq_true rfl) rfl ?_
  exact lp nt 0 (by omega)
set_option maxRecDepth 100000 in
set_option maxHeartbeats 4000000 in
theorem c_X5_fillOfSet {E : ev_E} {n : Nat} {w : ev_W} {T : gT} {b : Nat} (hT : TR T b n w) {nt : Nat} (e6 : T 6 0 = nI nt) (hnt : nt ≤ 8) {s : Int32} : Ct E mX5_fillOfSet [.ref b, .int s] n w (ev_is (some (.int (fsT T s nt))) n w) := by
  refine Ct.of 2 (by decide) (Nat.le_of_ble_eq_true rfl) rfl ?_
  have lp : ∀ (k i : Nat), i + k = nt → Ev E mX5_fillOfSet 4 [some (.ref b), some (.int s), some (.int (fsT T s i)), some (.int (nI i))] [] n w (0, 0) (ev_is (some (.int (fsT T s nt))) n w) := by
    intro k
    induction k with
    | zero =>
      intro i hi
      obtain rfl : i = nt := hi
      refine st_iload_n (q := 5) dX5_fillOfSet_4 rfl rfl rfl ?_
      refine st_aload_n (q := 6) dX5_fillOfSet_5 rfl rfl rfl ?_
      refine g_get (q := 9) dX5_fillOfSet_6 rfl fl_X5_52.g hT rfl ?_
      refine st_icmp_ge (q := 12) (tgt := 38) dX5_fillOfSet_9 rfl rfl (fun c_9 => ?_) (fun c_9 => False.elim (c_9 (by rw [e6]; exact nI_le (by omega) (by omega))))
      refine st_iload_n (q := 39) dX5_fillOfSet_38 rfl rfl rfl ?_
      refine st_ireturn dX5_fillOfSet_39 rfl ?_
      exact ⟨rfl, rfl, rfl⟩
    | succ k ih =>
      intro i hi
      refine st_iload_n (q := 5) dX5_fillOfSet_4 rfl rfl rfl ?_
      refine st_aload_n (q := 6) dX5_fillOfSet_5 rfl rfl rfl ?_
      refine g_get (q := 9) dX5_fillOfSet_6 rfl fl_X5_52.g hT rfl ?_
      refine st_icmp_ge (q := 12) (tgt := 38) dX5_fillOfSet_9 rfl rfl (fun c_9 => False.elim (absurd (by rw [← e6]; exact c_9) (nI_ge (a := i) (b := nt) (by omega) (by omega)))) (fun c_9 => ?_)
      refine st_iload_n (q := 13) dX5_fillOfSet_12 rfl rfl rfl ?_
      refine st_iload_n (q := 14) dX5_fillOfSet_13 rfl rfl rfl ?_
      refine st_iload_n (q := 15) dX5_fillOfSet_14 rfl rfl rfl ?_
      refine st_ishr (q := 16) dX5_fillOfSet_15 rfl ?_
      refine st_iconst (q := 17) dX5_fillOfSet_16 rfl ic_1 ?_
      refine st_iand (q := 18) dX5_fillOfSet_17 rfl ?_
      refine st_if_eq (q := 21) (tgt := 29) dX5_fillOfSet_18 rfl rfl (fun c_18 => ?_) (fun c_18 => ?_)
      · refine st_iconst (q := 30) dX5_fillOfSet_29 rfl ic_0 ?_
        refine st_iadd (q := 31) dX5_fillOfSet_30 rfl ?_
        refine st_istore_n (q := 32) (L' := [_, _, _, _]) dX5_fillOfSet_31 rfl rfl (Nat.le_of_ble_eq_true rfl) rfl ?_
        refine st_iinc (q := 35) (L' := [_, _, _, _]) dX5_fillOfSet_32 rfl rfl (nI_succ _).symm (Nat.le_of_ble_eq_true rfl) rfl ?_
        refine st_goto (q := 4) dX5_fillOfSet_35 rfl ?_
        have K := ih (i + 1) (by omega)
        first | (rw [fsT, if_pos c_18] at K; exact K) | (rw [fsT, if_neg c_18] at K; exact K)
      · refine st_aload_n (q := 22) dX5_fillOfSet_21 rfl rfl rfl ?_
        refine st_iload_n (q := 23) dX5_fillOfSet_22 rfl rfl rfl ?_
        refine sp_V1 (q := 26) (M' := mX5_fillOf) dX5_fillOfSet_23 rfl ok_X5_fillOf mk_X5_fillOf ml_X5_103 ⟨Nat.le_of_ble_eq_true rfl, Nat.le_of_ble_eq_true rfl⟩ rfl (Nat.le_of_ble_eq_true rfl) (g_rv hT rfl) ⟨rfl, rfl⟩ (c_X5_fillOf hT (ev_ix_nI (j := i) (by omega) (by decide))) ?_
        refine st_goto (q := 30) dX5_fillOfSet_26 rfl ?_
        refine st_iadd (q := 31) dX5_fillOfSet_30 rfl ?_
        refine st_istore_n (q := 32) (L' := [_, _, _, _]) dX5_fillOfSet_31 rfl rfl (Nat.le_of_ble_eq_true rfl) rfl ?_
        refine st_iinc (q := 35) (L' := [_, _, _, _]) dX5_fillOfSet_32 rfl rfl (nI_succ _).symm (Nat.le_of_ble_eq_true rfl) rfl ?_
        refine st_goto (q := 4) dX5_fillOfSet_35 rfl ?_
        have K := ih (i + 1) (by omega)
        first | (rw [fsT, if_pos c_18] at K; exact K) | (rw [fsT, if_neg c_18] at K; exact K)
  refine st_iconst (q := 1) dX5_fillOfSet_0 rfl ic_0 ?_
  refine st_istore_n (q := 2) (L' := [_, _, _, _]) dX5_fillOfSet_1 rfl rfl (Nat.le_of_ble_eq_true rfl) rfl ?_
  refine st_iconst (q := 3) dX5_fillOfSet_2 rfl ic_0 ?_
  refine st_istore_n (q := 4) (L' := [_, _, _, _]) dX5_fillOfSet_3 rfl rfl (Nat.le_of_ble_eq_true rfl) rfl ?_
  exact lp nt 0 (by omega)
set_option maxRecDepth 100000 in
set_option maxHeartbeats 4000000 in
theorem c_X5_costOfSet {E : ev_E} {n : Nat} {w : ev_W} {T : gT} {b : Nat} (hT : TR T b n w) {nt : Nat} (e6 : T 6 0 = nI nt) (hnt : nt ≤ 8) {s : Int32} : Ct E mX5_costOfSet [.ref b, .int s] n w (ev_is (some (.int (csT T s nt))) n w) := by
  refine Ct.of 2 (by decide) (Nat.le_of_ble_eq_true rfl) rfl ?_
  have lp : ∀ (k i : Nat), i + k = nt → Ev E mX5_costOfSet 4 [some (.ref b), some (.int s), some (.int (csT T s i)), some (.int (nI i))] [] n w (0, 0) (ev_is (some (.int (csT T s nt))) n w) := by
    intro k
    induction k with
    | zero =>
      intro i hi
      obtain rfl : i = nt := hi
      refine st_iload_n (q := 5) dX5_costOfSet_4 rfl rfl rfl ?_
      refine st_aload_n (q := 6) dX5_costOfSet_5 rfl rfl rfl ?_
      refine g_get (q := 9) dX5_costOfSet_6 rfl fl_X5_52.g hT rfl ?_
      refine st_icmp_ge (q := 12) (tgt := 38) dX5_costOfSet_9 rfl rfl (fun c_9 => ?_) (fun c_9 => False.elim (c_9 (by rw [e6]; exact nI_le (by omega) (by omega))))
      refine st_iload_n (q := 39) dX5_costOfSet_38 rfl rfl rfl ?_
      refine st_ireturn dX5_costOfSet_39 rfl ?_
      exact ⟨rfl, rfl, rfl⟩
    | succ k ih =>
      intro i hi
      refine st_iload_n (q := 5) dX5_costOfSet_4 rfl rfl rfl ?_
      refine st_aload_n (q := 6) dX5_costOfSet_5 rfl rfl rfl ?_
      refine g_get (q := 9) dX5_costOfSet_6 rfl fl_X5_52.g hT rfl ?_
      refine st_icmp_ge (q := 12) (tgt := 38) dX5_costOfSet_9 rfl rfl (fun c_9 => False.elim (absurd (by rw [← e6]; exact c_9) (nI_ge (a := i) (b := nt) (by omega) (by omega)))) (fun c_9 => ?_)
      refine st_iload_n (q := 13) dX5_costOfSet_12 rfl rfl rfl ?_
      refine st_iload_n (q := 14) dX5_costOfSet_13 rfl rfl rfl ?_
      refine st_iload_n (q := 15) dX5_costOfSet_14 rfl rfl rfl ?_
      refine st_ishr (q := 16) dX5_costOfSet_15 rfl ?_
      refine st_iconst (q := 17) dX5_costOfSet_16 rfl ic_1 ?_
      refine st_iand (q := 18) dX5_costOfSet_17 rfl ?_
      refine st_if_eq (q := 21) (tgt := 29) dX5_costOfSet_18 rfl rfl (fun c_18 => ?_) (fun c_18 => ?_)
      · refine st_iconst (q := 30) dX5_costOfSet_29 rfl ic_0 ?_
        refine st_iadd (q := 31) dX5_costOfSet_30 rfl ?_
        refine st_istore_n (q := 32) (L' := [_, _, _, _]) dX5_costOfSet_31 rfl rfl (Nat.le_of_ble_eq_true rfl) rfl ?_
        refine st_iinc (q := 35) (L' := [_, _, _, _]) dX5_costOfSet_32 rfl rfl (nI_succ _).symm (Nat.le_of_ble_eq_true rfl) rfl ?_
        refine st_goto (q := 4) dX5_costOfSet_35 rfl ?_
        have K := ih (i + 1) (by omega)
        first | (rw [csT, if_pos c_18] at K; exact K) | (rw [csT, if_neg c_18] at K; exact K)
      · refine st_aload_n (q := 22) dX5_costOfSet_21 rfl rfl rfl ?_
        refine st_iload_n (q := 23) dX5_costOfSet_22 rfl rfl rfl ?_
        refine sp_V1 (q := 26) (M' := mX5_costOf) dX5_costOfSet_23 rfl ok_X5_costOf mk_X5_costOf ml_X5_107 ⟨Nat.le_of_ble_eq_true rfl, Nat.le_of_ble_eq_true rfl⟩ rfl (Nat.le_of_ble_eq_true rfl) (g_rv hT rfl) ⟨rfl, rfl⟩ (c_X5_costOf hT (ev_ix_nI (j := i) (by omega) (by decide))) ?_
        refine st_goto (q := 30) dX5_costOfSet_26 rfl ?_
        refine st_iadd (q := 31) dX5_costOfSet_30 rfl ?_
        refine st_istore_n (q := 32) (L' := [_, _, _, _]) dX5_costOfSet_31 rfl rfl (Nat.le_of_ble_eq_true rfl) rfl ?_
        refine st_iinc (q := 35) (L' := [_, _, _, _]) dX5_costOfSet_32 rfl rfl (nI_succ _).symm (Nat.le_of_ble_eq_true rfl) rfl ?_
        refine st_goto (q := 4) dX5_costOfSet_35 rfl ?_
        have K := ih (i + 1) (by omega)
        first | (rw [csT, if_pos c_18] at K; exact K) | (rw [csT, if_neg c_18] at K; exact K)
  refine st_iconst (q := 1) dX5_costOfSet_0 rfl ic_0 ?_
  refine st_istore_n (q := 2) (L' := [_, _, _, _]) dX5_costOfSet_1 rfl rfl (Nat.le_of_ble_eq_true rfl) rfl ?_
  refine st_iconst (q := 3) dX5_costOfSet_2 rfl ic_0 ?_
  refine st_istore_n (q := 4) (L' := [_, _, _, _]) dX5_costOfSet_3 rfl rfl (Nat.le_of_ble_eq_true rfl) rfl ?_
  exact lp nt 0 (by omega)
set_option maxRecDepth 100000 in
set_option maxHeartbeats 4000000 in
theorem c_X5_filledOf {E : ev_E} {n : Nat} {w : ev_W} {T : gT} {b : Nat} (hT : TR T b n w) {nt : Nat} (e6 : T 6 0 = nI nt) (hnt : nt ≤ 8) {h : Int32} : Ct E mX5_filledOf [.ref b, .int h] n w (ev_is (some (.int (fdT T h nt))) n w) := by
  refine Ct.of 2 (by decide) (Nat.le_of_ble_eq_true rfl) rfl ?_
  have lp : ∀ (k i : Nat), i + k = nt → Ev E mX5_filledOf 4 [some (.ref b), some (.int h), some (.int (fdT T h i)), some (.int (nI i))] [] n w (0, 0) (ev_is (some (.int (fdT T h nt))) n w) := by
    intro k
    induction k with
    | zero =>
      intro i hi
      obtain rfl : i = nt := hi
      refine st_iload_n (q := 5) dX5_filledOf_4 rfl rfl rfl ?_
      refine st_aload_n (q := 6) dX5_filledOf_5 rfl rfl rfl ?_
      refine g_get (q := 9) dX5_filledOf_6 rfl fl_X5_52.g hT rfl ?_
      refine st_icmp_ge (q := 12) (tgt := 48) dX5_filledOf_9 rfl rfl (fun c_9 => ?_) (fun c_9 => False.elim (c_9 (by rw [e6]; exact nI_le (by omega) (by omega))))
      refine st_iload_n (q := 49) dX5_filledOf_48 rfl rfl rfl ?_
      refine st_ireturn dX5_filledOf_49 rfl ?_
      exact ⟨rfl, rfl, rfl⟩
    | succ k ih =>
      intro i hi
      refine st_iload_n (q := 5) dX5_filledOf_4 rfl rfl rfl ?_
      refine st_aload_n (q := 6) dX5_filledOf_5 rfl rfl rfl ?_
      refine g_get (q := 9) dX5_filledOf_6 rfl fl_X5_52.g hT rfl ?_
      refine st_icmp_ge (q := 12) (tgt := 48) dX5_filledOf_9 rfl rfl (fun c_9 => False.elim (absurd (by rw [← e6]; exact c_9) (nI_ge (a := i) (b := nt) (by omega) (by omega)))) (fun c_9 => ?_)
      refine st_iload_n (q := 13) dX5_filledOf_12 rfl rfl rfl ?_
      refine st_aload_n (q := 14) dX5_filledOf_13 rfl rfl rfl ?_
      refine g_getA (q := 17) dX5_filledOf_14 rfl fl_X5_27.g hT rfl ?_
      refine st_iload_n (q := 18) dX5_filledOf_17 rfl rfl rfl ?_
      refine g_iald (q := 19) dX5_filledOf_18 rfl gkX5 hT (i := 8) rfl (by first | assumption | exact ev_ix_nI (by omega) (by decide)) ?_
      refine st_iload_n (q := 20) dX5_filledOf_19 rfl rfl rfl ?_
      refine st_icmp_ne (q := 23) (tgt := 39) dX5_filledOf_20 rfl rfl (fun c_20 => ?_) (fun c_20 => ?_)
      · refine st_iconst (q := 40) dX5_filledOf_39 rfl ic_0 ?_
        refine st_iadd (q := 41) dX5_filledOf_40 rfl ?_
        refine st_istore_n (q := 42) (L' := [_, _, _, _]) dX5_filledOf_41 rfl rfl (Nat.le_of_ble_eq_true rfl) rfl ?_
        refine st_iinc (q := 45) (L' := [_, _, _, _]) dX5_filledOf_42 rfl rfl (nI_succ _).symm (Nat.le_of_ble_eq_true rfl) rfl ?_
        refine st_goto (q := 4) dX5_filledOf_45 rfl ?_
        have K := ih (i + 1) (by omega)
        first | (rw [fdT, if_neg c_20] at K; exact K) | (rw [fdT, if_pos c_20, if_pos (zI_1.mp c_28)] at K; exact K) | (rw [fdT, if_pos c_20, if_neg (by rw [zI_0.mp c_28]; decide)] at K; exact K)
      · refine st_aload_n (q := 24) dX5_filledOf_23 rfl rfl rfl ?_
        refine st_iload_n (q := 25) dX5_filledOf_24 rfl rfl rfl ?_
        refine sp_V1 (q := 28) (M' := mX5_isIn) dX5_filledOf_25 rfl ok_X5_isIn mk_X5_isIn ml_X5_100 ⟨Nat.le_of_ble_eq_true rfl, Nat.le_of_ble_eq_true rfl⟩ rfl (Nat.le_of_ble_eq_true rfl) (g_rv hT rfl) ⟨rfl, rfl⟩ (c_X5_isIn hT) ?_
        refine st_if_eq (q := 31) (tgt := 39) dX5_filledOf_28 rfl rfl (fun c_28 => ?_) (fun c_28 => ?_)
        · refine st_iconst (q := 40) dX5_filledOf_39 rfl ic_0 ?_
          refine st_iadd (q := 41) dX5_filledOf_40 rfl ?_
          refine st_istore_n (q := 42) (L' := [_, _, _, _]) dX5_filledOf_41 rfl rfl (Nat.le_of_ble_eq_true rfl) rfl ?_
          refine st_iinc (q := 45) (L' := [_, _, _, _]) dX5_filledOf_42 rfl rfl (nI_succ _).symm (Nat.le_of_ble_eq_true rfl) rfl ?_
          refine st_goto (q := 4) dX5_filledOf_45 rfl ?_
          have K := ih (i + 1) (by omega)
          first | (rw [fdT, if_neg c_20] at K; exact K) | (rw [fdT, if_pos c_20, if_pos (zI_1.mp c_28)] at K; exact K) | (rw [fdT, if_pos c_20, if_neg (by rw [zI_0.mp c_28]; decide)] at K; exact K)
        · refine st_aload_n (q := 32) dX5_filledOf_31 rfl rfl rfl ?_
          refine st_iload_n (q := 33) dX5_filledOf_32 rfl rfl rfl ?_
          refine sp_V1 (q := 36) (M' := mX5_fillOf) dX5_filledOf_33 rfl ok_X5_fillOf mk_X5_fillOf ml_X5_103 ⟨Nat.le_of_ble_eq_true rfl, Nat.le_of_ble_eq_true rfl⟩ rfl (Nat.le_of_ble_eq_true rfl) (g_rv hT rfl) ⟨rfl, rfl⟩ (c_X5_fillOf hT (ev_ix_nI (j := i) (by omega) (by decide))) ?_
          refine st_goto (q := 40) dX5_filledOf_36 rfl ?_
          refine st_iadd (q := 41) dX5_filledOf_40 rfl ?_
          refine st_istore_n (q := 42) (L' := [_, _, _, _]) dX5_filledOf_41 rfl rfl (Nat.le_of_ble_eq_true rfl) rfl ?_
          refine st_iinc (q := 45) (L' := [_, _, _, _]) dX5_filledOf_42 rfl rfl (nI_succ _).symm (Nat.le_of_ble_eq_true rfl) rfl ?_
          refine st_goto (q := 4) dX5_filledOf_45 rfl ?_
          have K := ih (i + 1) (by omega)
          first | (rw [fdT, if_neg c_20] at K; exact K) | (rw [fdT, if_pos c_20, if_pos (zI_1.mp c_28)] at K; exact K) | (rw [fdT, if_pos c_20, if_neg (by rw [zI_0.mp c_28]; decide)] at K; exact K)
  refine st_iconst (q := 1) dX5_filledOf_0 rfl ic_0 ?_
  refine st_istore_n (q := 2) (L' := [_, _, _, _]) dX5_filledOf_1 rfl rfl (Nat.le_of_ble_eq_true rfl) rfl ?_
  refine st_iconst (q := 3) dX5_filledOf_2 rfl ic_0 ?_
  refine st_istore_n (q := 4) (L' := [_, _, _, _]) dX5_filledOf_3 rfl rfl (Nat.le_of_ble_eq_true rfl) rfl ?_
  exact lp nt 0 (by omega)
def loseT (T : gT) (k : Nat) : gT :=
  let A := tup T 11 0 (T 11 0 &&& ((1 <<< (nI k &&& 31)) ^^^ (-1)))
  let B := tup A 12 0 (A 12 0 ||| 1 <<< (nI k &&& 31))
  tup B 17 0 (if B 17 0 + costI (B 7 k) (B 10 k) < 999 then B 17 0 + costI (B 7 k) (B 10 k) else 999)
theorem loseT_n {T : gT} {k f : Nat} (h1 : f ≠ 11) (h2 : f ≠ 12) (h3 : f ≠ 17) : loseT T k f = T f := by simp [loseT, tup, h1, h2, h3]
def loT (T : gT) (h : Int32) : Nat → gT
  | 0 => T
  | i + 1 => if loT T h i 8 i = h then (if whI (loT T h i) (nI i) = 0 then loseT (loT T h i) i else loT T h i) else loT T h i
theorem loT_n {T : gT} {h : Int32} {f : Nat} (h1 : f ≠ 11) (h2 : f ≠ 12) (h3 : f ≠ 17) : ∀ i, loT T h i f = T f
  | 0 => rfl
  | i + 1 => by
    rw [loT]
    split
    · split
      · rw [loseT_n h1 h2 h3, loT_n h1 h2 h3 i]
      · exact loT_n h1 h2 h3 i
    · exact loT_n h1 h2 h3 i
def lwT (h : Int32) (hj : Nat) : Nat → gT → Int32 → gT
  | 0, T, _ => T
  | k + 1, T, f => if f ≤ T 2 hj then T else
      if T 8 k = h then
        if btI (T 11 0) (nI k) = true then lwT h hj k (loseT T k) (f - fillI (T 7 k) (T 9 k))
        else lwT h hj k T f
      else lwT h hj k T f
theorem lwT_n {h : Int32} {hj g : Nat} (h1 : g ≠ 11) (h2 : g ≠ 12) (h3 : g ≠ 17) : ∀ (k : Nat) (T : gT) (f : Int32), lwT h hj k T f g = T g
  | 0, _, _ => rfl
  | k + 1, T, f => by
    rw [lwT]
    split
    · rfl
    · split
      · split
        · rw [lwT_n h1 h2 h3 k, loseT_n h1 h2 h3]
        · exact lwT_n h1 h2 h3 k T f
      · exact lwT_n h1 h2 h3 k T f
def ph1 (T : gT) (h : Int32) (hj nt : Nat) (wd : Int32) : gT :=
  let A := tup T 2 hj (if 0 < T 2 hj - T 3 hj then T 2 hj - T 3 hj else 0)
  let B := lwT h hj nt A (fdT A h nt)
  tup B 4 hj (bdI (B 4 hj + wd - 4) 99)
def phT (T : gT) (h : Int32) (hj nt : Nat) (wd : Int32) : gT :=
  if T 1 hj < T 15 0 then
    (if btI (T 5 0) h = true then ph1 T h hj nt wd
     else ph1 (tup (loT T h nt) 5 0 (loT T h nt 5 0 ||| 1 <<< (h &&& 31))) h hj nt wd)
  else tup T 5 0 (T 5 0 &&& ((1 <<< (h &&& 31)) ^^^ (-1)))
theorem ph1_n {T : gT} {h : Int32} {hj nt g : Nat} {wd : Int32} (h0 : g ≠ 2) (h1 : g ≠ 11) (h2 : g ≠ 12) (h3 : g ≠ 17) (h4 : g ≠ 4) : ph1 T h hj nt wd g = T g := by
  unfold ph1
  rw [tup_n h4, lwT_n h1 h2 h3, tup_n h0]
theorem phT_n {T : gT} {h : Int32} {hj nt g : Nat} {wd : Int32} (h0 : g ≠ 2) (h1 : g ≠ 11) (h2 : g ≠ 12) (h3 : g ≠ 17) (h4 : g ≠ 4) (h5 : g ≠ 5) : phT T h hj nt wd g = T g := by
  unfold phT
  split
  · split
    · exact ph1_n h0 h1 h2 h3 h4
    · rw [ph1_n h0 h1 h2 h3 h4, tup_n h5, loT_n h1 h2 h3]
  · rw [tup_n h5]
def phs (nt : Nat) (wd : Int32) (T : gT) : Nat → gT
  | 0 => T
  | h + 1 => phT (phs nt wd T h) (nI h) h nt wd
theorem phs_n {T : gT} {nt g : Nat} {wd : Int32} (h0 : g ≠ 2) (h1 : g ≠ 11) (h2 : g ≠ 12) (h3 : g ≠ 17) (h4 : g ≠ 4) (h5 : g ≠ 5) : ∀ k, phs nt wd T k g = T g
  | 0 => rfl
  | k + 1 => by rw [phs, phT_n h0 h1 h2 h3 h4 h5, phs_n h0 h1 h2 h3 h4 h5 k]
def pdT (T : gT) (ri wd : Int32) (nh nt : Nat) : gT :=
  let B := phs nt wd (tup T 15 0 (bdI (T 15 0 + ri - 4) 20)) nh
  tup B 16 0 (B 16 0 + 1)
theorem pdT_n {T : gT} {nh nt g : Nat} {ri wd : Int32} (h0 : g ≠ 2) (h1 : g ≠ 11) (h2 : g ≠ 12) (h3 : g ≠ 17) (h4 : g ≠ 4) (h5 : g ≠ 5) (h6 : g ≠ 15) (h7 : g ≠ 16) : pdT T ri wd nh nt g = T g := by
  unfold pdT
  rw [tup_n h7, phs_n h0 h1 h2 h3 h4 h5, tup_n h6]
theorem inc_m1 (x : Int32) : x + Int32.ofInt (-1) = x - 1 := by rw [Int32.sub_eq_add_neg]; rfl
theorem inI_ix {x : Int32} {nt : Nat} (h : inI x 0 (nI nt - 1) = true) (hnt : nt ≤ 1000) : ∃ j, j < nt ∧ x = nI j := by
  simp only [inI, Bool.and_eq_true, decide_eq_true_eq] at h
  obtain ⟨h1, h2⟩ := h
  have h3 : 0 ≤ x.toInt := by simpa using Int32.le_iff_toInt_le.mp h1
  have h4 := Int32.le_iff_toInt_le.mp h2
  have h5 : (nI nt - 1).toInt = (nt : Int) - 1 := by
    have := pk_sub_toInt (a := nt) (b := 1) (by omega) (by omega)
    exact this
  obtain ⟨j, hj, rfl⟩ := nI_of (x := x) (by intro q; have := Int32.lt_iff_toInt_lt.mp q; simp at this; omega)
  rw [h5, nI_toInt hj] at h4
  exact ⟨j, by omega, rfl⟩
theorem nI_m1_neg : nI 0 - 1 < 0 := by decide
set_option maxRecDepth 100000 in
set_option maxHeartbeats 4000000 in
theorem c_X5_loseThing {E : ev_E} {n : Nat} {w : ev_W} {T : gT} {b : Nat} (hT : TR T b n w) {k : Nat} (hk : k < 8) : Ct E mX5_loseThing [.ref b, .int (nI k)] n w (ev_ch none n w b (b + 10) (TR (loseT T k) b n)) := by
  refine Ct.of 0 (by decide) (Nat.le_of_ble_eq_true rfl) rfl ?_
  have hF : Fr b (b + 10) w w := Fr.rf
  refine st_aload_n (q := 1) dX5_loseThing_0 rfl rfl rfl ?_
  refine st_dup (q := 2) dX5_loseThing_1 rfl rfl ?_
  refine g_get (q := 5) dX5_loseThing_2 rfl fl_X5_58.g hT rfl ?_
  refine st_iconst (q := 6) dX5_loseThing_5 rfl ic_1 ?_
  refine st_iload_n (q := 7) dX5_loseThing_6 rfl rfl rfl ?_
  refine st_ishl (q := 8) dX5_loseThing_7 rfl ?_
  refine st_iconst (q := 9) dX5_loseThing_8 rfl ic_m1 ?_
  refine st_ixor (q := 10) dX5_loseThing_9 rfl ?_
  refine st_iand (q := 11) dX5_loseThing_10 rfl ?_
  refine g_put (q := 14) dX5_loseThing_11 rfl fl_X5_58 gkX5 hT rfl rfl rfl (fun w hT hF_ => ?_)
  replace hF := Fr.tr hF hF_
  refine st_aload_n (q := 15) dX5_loseThing_14 rfl rfl rfl ?_
  refine st_dup (q := 16) dX5_loseThing_15 rfl rfl ?_
  refine g_get (q := 19) dX5_loseThing_16 rfl fl_X5_61.g hT rfl ?_
  refine st_iconst (q := 20) dX5_loseThing_19 rfl ic_1 ?_
  refine st_iload_n (q := 21) dX5_loseThing_20 rfl rfl rfl ?_
  refine st_ishl (q := 22) dX5_loseThing_21 rfl ?_
  refine st_ior (q := 23) dX5_loseThing_22 rfl ?_
  refine g_put (q := 26) dX5_loseThing_23 rfl fl_X5_61 gkX5 hT rfl rfl rfl (fun w hT hF_ => ?_)
  replace hF := Fr.tr hF hF_
  refine st_aload_n (q := 27) dX5_loseThing_26 rfl rfl rfl ?_
  refine st_sipush (q := 30) dX5_loseThing_27 rfl sp_999 ?_
  refine st_aload_n (q := 31) dX5_loseThing_30 rfl rfl rfl ?_
  refine g_get (q := 34) dX5_loseThing_31 rfl fl_X5_70.g hT rfl ?_
  refine st_aload_n (q := 35) dX5_loseThing_34 rfl rfl rfl ?_
  refine st_iload_n (q := 36) dX5_loseThing_35 rfl rfl rfl ?_
  refine sp_V1 (q := 39) (M' := mX5_costOf) dX5_loseThing_36 rfl ok_X5_costOf mk_X5_costOf ml_X5_107 ⟨Nat.le_of_ble_eq_true rfl, Nat.le_of_ble_eq_true rfl⟩ rfl (Nat.le_of_ble_eq_true rfl) (g_rv hT rfl) ⟨rfl, rfl⟩ (c_X5_costOf hT (ev_ix_nI (j := k) hk (by decide))) ?_
  refine st_iadd (q := 40) dX5_loseThing_39 rfl ?_
  refine st_mmin (q := 43) dX5_loseThing_40 rfl ml_X5_77 jm_min_s jm_i jm_min_c (Nat.le_of_ble_eq_true rfl) (Nat.le_of_ble_eq_true rfl) (Nat.le_of_ble_eq_true rfl) ?_
  refine g_put (q := 46) dX5_loseThing_43 rfl fl_X5_70 gkX5 hT rfl rfl rfl (fun w hT hF_ => ?_)
  replace hF := Fr.tr hF hF_
  refine st_return dX5_loseThing_46 rfl ?_
  exact ⟨rfl, rfl, hT, hF⟩
set_option maxRecDepth 100000 in
set_option maxHeartbeats 4000000 in
theorem c_X5_loseWhatIsOut {E : ev_E} {n : Nat} {w : ev_W} {T : gT} {b : Nat} (hT : TR T b n w) {nt : Nat} (e6 : T 6 0 = nI nt) (hnt : nt ≤ 8) {h : Int32} : Ct E mX5_loseWhatIsOut [.ref b, .int h] n w (ev_ch none n w b (b + 10) (TR (loT T h nt) b n)) := by
  refine Ct.of 1 (by decide) (Nat.le_of_ble_eq_true rfl) rfl ?_
  have hF : Fr b (b + 10) w w := Fr.rf
  have lp : ∀ (k i : Nat), i + k = nt → ∀ (w1 : ev_W), TR (loT T h i) b n w1 → Fr b (b + 10) w w1 → Ev E mX5_loseWhatIsOut 2 [some (.ref b), some (.int h), some (.int (nI i))] [] n w1 (0, 0) (ev_ch none n w b (b + 10) (TR (loT T h nt) b n)) := by
    clear hF hT
    have f6 : ∀ i, loT T h i 6 0 = nI nt := fun i => by rw [loT_n (by decide) (by decide) (by decide)]; exact e6
    intro k
    induction k with
    | zero =>
      intro i hi w hT hF
      obtain rfl : i = nt := hi
      refine st_iload_n (q := 3) dX5_loseWhatIsOut_2 rfl rfl rfl ?_
      refine st_aload_n (q := 4) dX5_loseWhatIsOut_3 rfl rfl rfl ?_
      refine g_get (q := 7) dX5_loseWhatIsOut_4 rfl fl_X5_52.g hT rfl ?_
      refine st_icmp_ge (q := 10) (tgt := 39) dX5_loseWhatIsOut_7 rfl rfl (fun c_7 => ?_) (fun c_7 => False.elim (c_7 (by rw [f6]; exact nI_le (by omega) (by omega))))
      refine st_return dX5_loseWhatIsOut_39 rfl ?_
      exact ⟨rfl, rfl, hT, hF⟩
    | succ k ih =>
      intro i hi w hT hF
      refine st_iload_n (q := 3) dX5_loseWhatIsOut_2 rfl rfl rfl ?_
      refine st_aload_n (q := 4) dX5_loseWhatIsOut_3 rfl rfl rfl ?_
      refine g_get (q := 7) dX5_loseWhatIsOut_4 rfl fl_X5_52.g hT rfl ?_
      refine st_icmp_ge (q := 10) (tgt := 39) dX5_loseWhatIsOut_7 rfl rfl (fun c_7 => False.elim (absurd (by rw [f6] at c_7; exact c_7) (nI_ge (a := i) (b := nt) (by omega) (by omega)))) (fun c_7 => ?_)
      refine st_aload_n (q := 11) dX5_loseWhatIsOut_10 rfl rfl rfl ?_
      refine g_getA (q := 14) dX5_loseWhatIsOut_11 rfl fl_X5_27.g hT rfl ?_
      refine st_iload_n (q := 15) dX5_loseWhatIsOut_14 rfl rfl rfl ?_
      refine g_iald (q := 16) dX5_loseWhatIsOut_15 rfl gkX5 hT (i := 8) rfl (by exact ev_ix_nI (j := i) (by omega) (by decide)) ?_
      refine st_iload_n (q := 17) dX5_loseWhatIsOut_16 rfl rfl rfl ?_
      refine st_icmp_ne (q := 20) (tgt := 33) dX5_loseWhatIsOut_17 rfl rfl (fun c_17 => ?_) (fun c_17 => ?_)
      · refine st_iinc (q := 36) (L' := [_, _, _]) dX5_loseWhatIsOut_33 rfl rfl (nI_succ _).symm (Nat.le_of_ble_eq_true rfl) rfl ?_
        refine st_goto (q := 2) dX5_loseWhatIsOut_36 rfl ?_
        first
          | exact ih (i + 1) (by omega) w (by rw [loT, if_neg c_17]; exact hT) hF
          | exact ih (i + 1) (by omega) w (by rw [loT, if_pos c_17, if_neg c_25]; exact hT) hF
          | exact ih (i + 1) (by omega) w (by rw [loT, if_pos c_17, if_pos c_25]; exact hT) hF
      · refine st_aload_n (q := 21) dX5_loseWhatIsOut_20 rfl rfl rfl ?_
        refine st_iload_n (q := 22) dX5_loseWhatIsOut_21 rfl rfl rfl ?_
        refine sp_V1 (q := 25) (M' := mX5_whereIs) dX5_loseWhatIsOut_22 rfl ok_X5_whereIs mk_X5_whereIs ml_X5_113 ⟨Nat.le_of_ble_eq_true rfl, Nat.le_of_ble_eq_true rfl⟩ rfl (Nat.le_of_ble_eq_true rfl) (g_rv hT rfl) ⟨rfl, rfl⟩ (c_X5_whereIs hT) ?_
        refine st_if_ne (q := 28) (tgt := 33) dX5_loseWhatIsOut_25 rfl rfl (fun c_25 => ?_) (fun c_25 => ?_)
        · refine st_iinc (q := 36) (L' := [_, _, _]) dX5_loseWhatIsOut_33 rfl rfl (nI_succ _).symm (Nat.le_of_ble_eq_true rfl) rfl ?_
          refine st_goto (q := 2) dX5_loseWhatIsOut_36 rfl ?_
          first
            | exact ih (i + 1) (by omega) w (by rw [loT, if_neg c_17]; exact hT) hF
            | exact ih (i + 1) (by omega) w (by rw [loT, if_pos c_17, if_neg c_25]; exact hT) hF
            | exact ih (i + 1) (by omega) w (by rw [loT, if_pos c_17, if_pos c_25]; exact hT) hF
        · refine st_aload_n (q := 29) dX5_loseWhatIsOut_28 rfl rfl rfl ?_
          refine st_iload_n (q := 30) dX5_loseWhatIsOut_29 rfl rfl rfl ?_
          refine sm_V1 (q := 33) (M' := mX5_loseThing) dX5_loseWhatIsOut_30 rfl ok_X5_loseThing mk_X5_loseThing ml_X5_149 ⟨Nat.le_of_ble_eq_true rfl, Nat.le_of_ble_eq_true rfl⟩ rfl (Nat.le_of_ble_eq_true rfl) (g_rv hT rfl) ⟨rfl, rfl⟩ (c_X5_loseThing hT (k := i) (by omega)) ?_
          intro _ _ w h9 _
          obtain ⟨rfl, rfl, hT, hF_⟩ := h9
          replace hF := Fr.tr hF hF_
          refine st_iinc (q := 36) (L' := [_, _, _]) dX5_loseWhatIsOut_33 rfl rfl (nI_succ _).symm (Nat.le_of_ble_eq_true rfl) rfl ?_
          refine st_goto (q := 2) dX5_loseWhatIsOut_36 rfl ?_
          first
            | exact ih (i + 1) (by omega) w (by rw [loT, if_neg c_17]; exact hT) hF
            | exact ih (i + 1) (by omega) w (by rw [loT, if_pos c_17, if_neg c_25]; exact hT) hF
            | exact ih (i + 1) (by omega) w (by rw [loT, if_pos c_17, if_pos c_25]; exact hT) hF
  refine st_iconst (q := 1) dX5_loseWhatIsOut_0 rfl ic_0 ?_
  refine st_istore_n (q := 2) (L' := [_, _, _]) dX5_loseWhatIsOut_1 rfl rfl (Nat.le_of_ble_eq_true rfl) rfl ?_
  exact lp nt 0 (by omega) w hT hF
set_option maxRecDepth 100000 in
set_option maxHeartbeats 4000000 in
theorem c_X5_loseWhatIsOver {E : ev_E} {n : Nat} {w : ev_W} {T : gT} {b : Nat} (hT : TR T b n w) {nt : Nat} (e6 : T 6 0 = nI nt) (hnt : nt ≤ 8) {h : Int32} {hj : Nat} (hx : ev_ix h 4 hj) : Ct E mX5_loseWhatIsOver [.ref b, .int h] n w (ev_ch none n w b (b + 10) (TR (lwT h hj nt T (fdT T h nt)) b n)) := by
  refine Ct.of 2 (by decide) (Nat.le_of_ble_eq_true rfl) rfl ?_
  have hF : Fr b (b + 10) w w := Fr.rf
  have lp : ∀ (k : Nat), k ≤ nt → ∀ (T : gT) (f : Int32) (w1 : ev_W), TR T b n w1 → T 6 0 = nI nt → Fr b (b + 10) w w1 → Ev E mX5_loseWhatIsOver 13 [some (.ref b), some (.int h), some (.int f), some (.int (nI k - 1))] [] n w1 (0, 0) (ev_ch none n w b (b + 10) (TR (lwT h hj k T f) b n)) := by
    clear hF hT e6
    intro k
    induction k with
    | zero =>
      intro hk T f w hT e6 hF
      refine st_iload_n (q := 14) dX5_loseWhatIsOver_13 rfl rfl rfl ?_
      refine st_if_lt (q := 17) (tgt := 64) dX5_loseWhatIsOver_14 rfl rfl (fun c_14 => ?_) (fun c_14 => False.elim (c_14 nI_m1_neg))
      refine st_return dX5_loseWhatIsOver_64 rfl ?_
      exact ⟨rfl, rfl, hT, hF⟩
    | succ k ih =>
      intro hk T f w hT e6 hF
      rw [nI_pred k]
      refine st_iload_n (q := 14) dX5_loseWhatIsOver_13 rfl rfl rfl ?_
      refine st_if_lt (q := 17) (tgt := 64) dX5_loseWhatIsOver_14 rfl rfl (fun c_14 => False.elim (nI_pos (n := k) (by omega) c_14)) (fun c_14 => ?_)
      refine st_iload_n (q := 18) dX5_loseWhatIsOver_17 rfl rfl rfl ?_
      refine st_aload_n (q := 19) dX5_loseWhatIsOver_18 rfl rfl rfl ?_
      refine g_getA (q := 22) dX5_loseWhatIsOver_19 rfl fl_X5_15.g hT rfl ?_
      refine st_iload_n (q := 23) dX5_loseWhatIsOver_22 rfl rfl rfl ?_
      refine g_iald (q := 24) dX5_loseWhatIsOver_23 rfl gkX5 hT (i := 2) rfl (by first | assumption | exact ev_ix_nI (j := k) (by omega) (by decide)) ?_
      refine st_icmp_le (q := 27) (tgt := 64) dX5_loseWhatIsOver_24 rfl rfl (fun c_24 => ?_) (fun c_24 => ?_)
      · refine st_return dX5_loseWhatIsOver_64 rfl ?_
        rw [lwT, if_pos c_24]
        exact ⟨rfl, rfl, hT, hF⟩
      · refine st_aload_n (q := 28) dX5_loseWhatIsOver_27 rfl rfl rfl ?_
        refine g_getA (q := 31) dX5_loseWhatIsOver_28 rfl fl_X5_27.g hT rfl ?_
        refine st_iload_n (q := 32) dX5_loseWhatIsOver_31 rfl rfl rfl ?_
        refine g_iald (q := 33) dX5_loseWhatIsOver_32 rfl gkX5 hT (i := 8) rfl (by first | assumption | exact ev_ix_nI (j := k) (by omega) (by decide)) ?_
        refine st_iload_n (q := 34) dX5_loseWhatIsOver_33 rfl rfl rfl ?_
        refine st_icmp_ne (q := 37) (tgt := 58) dX5_loseWhatIsOver_34 rfl rfl (fun c_34 => ?_) (fun c_34 => ?_)
        · refine st_iinc (q := 61) (L' := [_, _, _, _]) dX5_loseWhatIsOver_58 rfl rfl (inc_m1 _) (Nat.le_of_ble_eq_true rfl) rfl ?_
          refine st_goto (q := 13) dX5_loseWhatIsOver_61 rfl ?_
          first
            | (rw [lwT, if_neg c_24, if_pos c_34, if_pos (zI_1.mp c_42)]; exact ih (by omega) _ _ w hT (by rw [loseT_n (by decide) (by decide) (by decide)]; exact e6) hF)
            | (rw [lwT, if_neg c_24, if_neg c_34]; exact ih (by omega) _ _ w hT e6 hF)
            | (rw [lwT, if_neg c_24, if_pos c_34, if_neg (by rw [zI_0.mp c_42]; decide)]; exact ih (by omega) _ _ w hT e6 hF)
        · refine st_aload_n (q := 38) dX5_loseWhatIsOver_37 rfl rfl rfl ?_
          refine st_iload_n (q := 39) dX5_loseWhatIsOver_38 rfl rfl rfl ?_
          refine sp_V1 (q := 42) (M' := mX5_isIn) dX5_loseWhatIsOver_39 rfl ok_X5_isIn mk_X5_isIn ml_X5_100 ⟨Nat.le_of_ble_eq_true rfl, Nat.le_of_ble_eq_true rfl⟩ rfl (Nat.le_of_ble_eq_true rfl) (g_rv hT rfl) ⟨rfl, rfl⟩ (c_X5_isIn hT) ?_
          refine st_if_eq (q := 45) (tgt := 58) dX5_loseWhatIsOver_42 rfl rfl (fun c_42 => ?_) (fun c_42 => ?_)
          · refine st_iinc (q := 61) (L' := [_, _, _, _]) dX5_loseWhatIsOver_58 rfl rfl (inc_m1 _) (Nat.le_of_ble_eq_true rfl) rfl ?_
            refine st_goto (q := 13) dX5_loseWhatIsOver_61 rfl ?_
            first
              | (rw [lwT, if_neg c_24, if_pos c_34, if_pos (zI_1.mp c_42)]; exact ih (by omega) _ _ w hT (by rw [loseT_n (by decide) (by decide) (by decide)]; exact e6) hF)
              | (rw [lwT, if_neg c_24, if_neg c_34]; exact ih (by omega) _ _ w hT e6 hF)
              | (rw [lwT, if_neg c_24, if_pos c_34, if_neg (by rw [zI_0.mp c_42]; decide)]; exact ih (by omega) _ _ w hT e6 hF)
          · refine st_iload_n (q := 46) dX5_loseWhatIsOver_45 rfl rfl rfl ?_
            refine st_aload_n (q := 47) dX5_loseWhatIsOver_46 rfl rfl rfl ?_
            refine st_iload_n (q := 48) dX5_loseWhatIsOver_47 rfl rfl rfl ?_
            refine sp_V1 (q := 51) (M' := mX5_fillOf) dX5_loseWhatIsOver_48 rfl ok_X5_fillOf mk_X5_fillOf ml_X5_103 ⟨Nat.le_of_ble_eq_true rfl, Nat.le_of_ble_eq_true rfl⟩ rfl (Nat.le_of_ble_eq_true rfl) (g_rv hT rfl) ⟨rfl, rfl⟩ (c_X5_fillOf hT (ev_ix_nI (j := k) (by omega) (by decide))) ?_
            refine st_isub (q := 52) dX5_loseWhatIsOver_51 rfl ?_
            refine st_istore_n (q := 53) (L' := [_, _, _, _]) dX5_loseWhatIsOver_52 rfl rfl (Nat.le_of_ble_eq_true rfl) rfl ?_
            refine st_aload_n (q := 54) dX5_loseWhatIsOver_53 rfl rfl rfl ?_
            refine st_iload_n (q := 55) dX5_loseWhatIsOver_54 rfl rfl rfl ?_
            refine sm_V1 (q := 58) (M' := mX5_loseThing) dX5_loseWhatIsOver_55 rfl ok_X5_loseThing mk_X5_loseThing ml_X5_149 ⟨Nat.le_of_ble_eq_true rfl, Nat.le_of_ble_eq_true rfl⟩ rfl (Nat.le_of_ble_eq_true rfl) (g_rv hT rfl) ⟨rfl, rfl⟩ (c_X5_loseThing hT (k := k) (by omega)) ?_
            intro _ _ w h9 _
            obtain ⟨rfl, rfl, hT, hF_⟩ := h9
            replace hF := Fr.tr hF hF_
            refine st_iinc (q := 61) (L' := [_, _, _, _]) dX5_loseWhatIsOver_58 rfl rfl (inc_m1 _) (Nat.le_of_ble_eq_true rfl) rfl ?_
            refine st_goto (q := 13) dX5_loseWhatIsOver_61 rfl ?_
            first
              | (rw [lwT, if_neg c_24, if_pos c_34, if_pos (zI_1.mp c_42)]; exact ih (by omega) _ _ w hT (by rw [loseT_n (by decide) (by decide) (by decide)]; exact e6) hF)
              | (rw [lwT, if_neg c_24, if_neg c_34]; exact ih (by omega) _ _ w hT e6 hF)
              | (rw [lwT, if_neg c_24, if_pos c_34, if_neg (by rw [zI_0.mp c_42]; decide)]; exact ih (by omega) _ _ w hT e6 hF)
  refine st_aload_n (q := 1) dX5_loseWhatIsOver_0 rfl rfl rfl ?_
  refine st_iload_n (q := 2) dX5_loseWhatIsOver_1 rfl rfl rfl ?_
  refine sp_V1 (q := 5) (M' := mX5_filledOf) dX5_loseWhatIsOver_2 rfl ok_X5_filledOf mk_X5_filledOf ml_X5_119 ⟨Nat.le_of_ble_eq_true rfl, Nat.le_of_ble_eq_true rfl⟩ rfl (Nat.le_of_ble_eq_true rfl) (g_rv hT rfl) ⟨rfl, rfl⟩ (c_X5_filledOf hT e6 hnt) ?_
  refine st_istore_n (q := 6) (L' := [_, _, _, _]) dX5_loseWhatIsOver_5 rfl rfl (Nat.le_of_ble_eq_true rfl) rfl ?_
  refine st_aload_n (q := 7) dX5_loseWhatIsOver_6 rfl rfl rfl ?_
  refine g_get (q := 10) dX5_loseWhatIsOver_7 rfl fl_X5_52.g hT rfl ?_
  refine st_iconst (q := 11) dX5_loseWhatIsOver_10 rfl ic_1 ?_
  refine st_isub (q := 12) dX5_loseWhatIsOver_11 rfl ?_
  refine st_istore_n (q := 13) (L' := [_, _, _, _]) dX5_loseWhatIsOver_12 rfl rfl (Nat.le_of_ble_eq_true rfl) rfl ?_
  rw [e6]
  exact lp nt (Nat.le_refl _) T _ w hT e6 hF
set_option maxRecDepth 100000 in
set_option maxHeartbeats 4000000 in
theorem c_X5_passHouse {E : ev_E} {n : Nat} {w : ev_W} {T : gT} {b : Nat} (hT : TR T b n w) {nt : Nat} (e6 : T 6 0 = nI nt) (hnt : nt ≤ 8) {h : Int32} {hj : Nat} (hx : ev_ix h 4 hj) {wd : Int32} : Ct E mX5_passHouse [.ref b, .int h, .int wd] n w (ev_ch none n w b (b + 10) (TR (phT T h hj nt wd) b n)) := by
  refine Ct.of 0 (by decide) (Nat.le_of_ble_eq_true rfl) rfl ?_
  have hF : Fr b (b + 10) w w := Fr.rf
  refine st_aload_n (q := 1) dX5_passHouse_0 rfl rfl rfl ?_
  refine g_get (q := 4) dX5_passHouse_1 rfl fl_X5_64.g hT rfl ?_
  refine st_aload_n (q := 5) dX5_passHouse_4 rfl rfl rfl ?_
  refine g_getA (q := 8) dX5_passHouse_5 rfl fl_X5_9.g hT rfl ?_
  refine st_iload_n (q := 9) dX5_passHouse_8 rfl rfl rfl ?_
  refine g_iald (q := 10) dX5_passHouse_9 rfl gkX5 hT (i := 1) rfl (by first | assumption | exact ev_ix_nI (by omega) (by decide)) ?_
  refine st_icmp_gt (q := 13) (tgt := 28) dX5_passHouse_10 rfl rfl (fun c_10 => ?_) (fun c_10 => ?_)
  · rw [phT, if_pos c_10]
    refine st_aload_n (q := 29) dX5_passHouse_28 rfl rfl rfl ?_
    refine st_iload_n (q := 30) dX5_passHouse_29 rfl rfl rfl ?_
    refine sp_V1 (q := 33) (M' := mX5_isAfloat) dX5_passHouse_30 rfl ok_X5_isAfloat mk_X5_isAfloat ml_X5_116 ⟨Nat.le_of_ble_eq_true rfl, Nat.le_of_ble_eq_true rfl⟩ rfl (Nat.le_of_ble_eq_true rfl) (g_rv hT rfl) ⟨rfl, rfl⟩ (c_X5_isAfloat hT) ?_
    refine st_if_ne (q := 36) (tgt := 53) dX5_passHouse_33 rfl rfl (fun c_33 => ?_) (fun c_33 => ?_)
    · refine st_aload_n (q := 54) dX5_passHouse_53 rfl rfl rfl ?_
      refine g_getA (q := 57) dX5_passHouse_54 rfl fl_X5_15.g hT rfl ?_
      refine st_iload_n (q := 58) dX5_passHouse_57 rfl rfl rfl ?_
      refine st_iconst (q := 59) dX5_passHouse_58 rfl ic_0 ?_
      refine st_aload_n (q := 60) dX5_passHouse_59 rfl rfl rfl ?_
      refine g_getA (q := 63) dX5_passHouse_60 rfl fl_X5_15.g hT rfl ?_
      refine st_iload_n (q := 64) dX5_passHouse_63 rfl rfl rfl ?_
      refine g_iald (q := 65) dX5_passHouse_64 rfl gkX5 hT (i := 2) rfl (by first | assumption | exact ev_ix_nI (by omega) (by decide)) ?_
      refine st_aload_n (q := 66) dX5_passHouse_65 rfl rfl rfl ?_
      refine g_getA (q := 69) dX5_passHouse_66 rfl fl_X5_18.g hT rfl ?_
      refine st_iload_n (q := 70) dX5_passHouse_69 rfl rfl rfl ?_
      refine g_iald (q := 71) dX5_passHouse_70 rfl gkX5 hT (i := 3) rfl (by first | assumption | exact ev_ix_nI (by omega) (by decide)) ?_
      refine st_isub (q := 72) dX5_passHouse_71 rfl ?_
      refine st_mmax (q := 75) dX5_passHouse_72 rfl ml_X5_122 jm_max_s jm_i jm_max_c (Nat.le_of_ble_eq_true rfl) (Nat.le_of_ble_eq_true rfl) (Nat.le_of_ble_eq_true rfl) ?_
      refine g_iast (q := 76) dX5_passHouse_75 rfl gkX5 hT (i := 2) rfl (by first | assumption | exact ev_ix_nI (by omega) (by decide)) (fun w hT hF_ => ?_)
      replace hF := Fr.tr hF hF_
      refine st_aload_n (q := 77) dX5_passHouse_76 rfl rfl rfl ?_
      refine st_iload_n (q := 78) dX5_passHouse_77 rfl rfl rfl ?_
      refine sm_V1 (q := 81) (M' := mX5_loseWhatIsOver) dX5_passHouse_78 rfl ok_X5_loseWhatIsOver mk_X5_loseWhatIsOver ml_X5_146 ⟨Nat.le_of_ble_eq_true rfl, Nat.le_of_ble_eq_true rfl⟩ rfl (Nat.le_of_ble_eq_true rfl) (g_rv hT rfl) ⟨rfl, rfl⟩ (c_X5_loseWhatIsOver hT (by first | exact e6 | (rw [tup_n (by decide), tup_n (by decide), loT_n (by decide) (by decide) (by decide)]; exact e6)) hnt hx) ?_
      intro _ _ w h9 _
      obtain ⟨rfl, rfl, hT, hF_⟩ := h9
      replace hF := Fr.tr hF hF_
      refine st_aload_n (q := 82) dX5_passHouse_81 rfl rfl rfl ?_
      refine g_getA (q := 85) dX5_passHouse_82 rfl fl_X5_21.g hT rfl ?_
      refine st_iload_n (q := 86) dX5_passHouse_85 rfl rfl rfl ?_
      refine st_aload_n (q := 87) dX5_passHouse_86 rfl rfl rfl ?_
      refine g_getA (q := 90) dX5_passHouse_87 rfl fl_X5_21.g hT rfl ?_
      refine st_iload_n (q := 91) dX5_passHouse_90 rfl rfl rfl ?_
      refine g_iald (q := 92) dX5_passHouse_91 rfl gkX5 hT (i := 4) rfl (by first | assumption | exact ev_ix_nI (by omega) (by decide)) ?_
      refine st_iload_n (q := 93) dX5_passHouse_92 rfl rfl rfl ?_
      refine st_iadd (q := 94) dX5_passHouse_93 rfl ?_
      refine st_iconst (q := 95) dX5_passHouse_94 rfl ic_4 ?_
      refine st_isub (q := 96) dX5_passHouse_95 rfl ?_
      refine st_bipush (q := 98) dX5_passHouse_96 rfl bp_99 ?_
      refine sp_SN2 (q := 101) (M' := mX6_bounded) dX5_passHouse_98 rfl ok_X6_bounded mk_X6_bounded ml_X5_136 ⟨Nat.le_of_ble_eq_true rfl, Nat.le_of_ble_eq_true rfl⟩ rfl (Nat.le_of_ble_eq_true rfl) ⟨rfl, rfl⟩ (c_X6_bounded) ?_
      refine g_iast (q := 102) dX5_passHouse_101 rfl gkX5 hT (i := 4) rfl (by first | assumption | exact ev_ix_nI (by omega) (by decide)) (fun w hT hF_ => ?_)
      replace hF := Fr.tr hF hF_
      refine st_return dX5_passHouse_102 rfl ?_
      first
        | (rw [if_pos (zI_1.mp c_33)]; exact ⟨rfl, rfl, hT, hF⟩)
        | (rw [if_neg (by rw [zI_0.mp c_33]; decide)]; exact ⟨rfl, rfl, hT, hF⟩)
    · refine st_aload_n (q := 37) dX5_passHouse_36 rfl rfl rfl ?_
      refine st_iload_n (q := 38) dX5_passHouse_37 rfl rfl rfl ?_
      refine sm_V1 (q := 41) (M' := mX5_loseWhatIsOut) dX5_passHouse_38 rfl ok_X5_loseWhatIsOut mk_X5_loseWhatIsOut ml_X5_142 ⟨Nat.le_of_ble_eq_true rfl, Nat.le_of_ble_eq_true rfl⟩ rfl (Nat.le_of_ble_eq_true rfl) (g_rv hT rfl) ⟨rfl, rfl⟩ (c_X5_loseWhatIsOut hT e6 hnt) ?_
      intro _ _ w h9 _
      obtain ⟨rfl, rfl, hT, hF_⟩ := h9
      replace hF := Fr.tr hF hF_
      refine st_aload_n (q := 42) dX5_passHouse_41 rfl rfl rfl ?_
      refine st_dup (q := 43) dX5_passHouse_42 rfl rfl ?_
      refine g_get (q := 46) dX5_passHouse_43 rfl fl_X5_55.g hT rfl ?_
      refine st_iconst (q := 47) dX5_passHouse_46 rfl ic_1 ?_
      refine st_iload_n (q := 48) dX5_passHouse_47 rfl rfl rfl ?_
      refine st_ishl (q := 49) dX5_passHouse_48 rfl ?_
      refine st_ior (q := 50) dX5_passHouse_49 rfl ?_
      refine g_put (q := 53) dX5_passHouse_50 rfl fl_X5_55 gkX5 hT rfl rfl rfl (fun w hT hF_ => ?_)
      replace hF := Fr.tr hF hF_
      refine st_aload_n (q := 54) dX5_passHouse_53 rfl rfl rfl ?_
      refine g_getA (q := 57) dX5_passHouse_54 rfl fl_X5_15.g hT rfl ?_
      refine st_iload_n (q := 58) dX5_passHouse_57 rfl rfl rfl ?_
      refine st_iconst (q := 59) dX5_passHouse_58 rfl ic_0 ?_
      refine st_aload_n (q := 60) dX5_passHouse_59 rfl rfl rfl ?_
      refine g_getA (q := 63) dX5_passHouse_60 rfl fl_X5_15.g hT rfl ?_
      refine st_iload_n (q := 64) dX5_passHouse_63 rfl rfl rfl ?_
      refine g_iald (q := 65) dX5_passHouse_64 rfl gkX5 hT (i := 2) rfl (by first | assumption | exact ev_ix_nI (by omega) (by decide)) ?_
      refine st_aload_n (q := 66) dX5_passHouse_65 rfl rfl rfl ?_
      refine g_getA (q := 69) dX5_passHouse_66 rfl fl_X5_18.g hT rfl ?_
      refine st_iload_n (q := 70) dX5_passHouse_69 rfl rfl rfl ?_
      refine g_iald (q := 71) dX5_passHouse_70 rfl gkX5 hT (i := 3) rfl (by first | assumption | exact ev_ix_nI (by omega) (by decide)) ?_
      refine st_isub (q := 72) dX5_passHouse_71 rfl ?_
      refine st_mmax (q := 75) dX5_passHouse_72 rfl ml_X5_122 jm_max_s jm_i jm_max_c (Nat.le_of_ble_eq_true rfl) (Nat.le_of_ble_eq_true rfl) (Nat.le_of_ble_eq_true rfl) ?_
      refine g_iast (q := 76) dX5_passHouse_75 rfl gkX5 hT (i := 2) rfl (by first | assumption | exact ev_ix_nI (by omega) (by decide)) (fun w hT hF_ => ?_)
      replace hF := Fr.tr hF hF_
      refine st_aload_n (q := 77) dX5_passHouse_76 rfl rfl rfl ?_
      refine st_iload_n (q := 78) dX5_passHouse_77 rfl rfl rfl ?_
      refine sm_V1 (q := 81) (M' := mX5_loseWhatIsOver) dX5_passHouse_78 rfl ok_X5_loseWhatIsOver mk_X5_loseWhatIsOver ml_X5_146 ⟨Nat.le_of_ble_eq_true rfl, Nat.le_of_ble_eq_true rfl⟩ rfl (Nat.le_of_ble_eq_true rfl) (g_rv hT rfl) ⟨rfl, rfl⟩ (c_X5_loseWhatIsOver hT (by first | exact e6 | (rw [tup_n (by decide), tup_n (by decide), loT_n (by decide) (by decide) (by decide)]; exact e6)) hnt hx) ?_
      intro _ _ w h9 _
      obtain ⟨rfl, rfl, hT, hF_⟩ := h9
      replace hF := Fr.tr hF hF_
      refine st_aload_n (q := 82) dX5_passHouse_81 rfl rfl rfl ?_
      refine g_getA (q := 85) dX5_passHouse_82 rfl fl_X5_21.g hT rfl ?_
      refine st_iload_n (q := 86) dX5_passHouse_85 rfl rfl rfl ?_
      refine st_aload_n (q := 87) dX5_passHouse_86 rfl rfl rfl ?_
      refine g_getA (q := 90) dX5_passHouse_87 rfl fl_X5_21.g hT rfl ?_
      refine st_iload_n (q := 91) dX5_passHouse_90 rfl rfl rfl ?_
      refine g_iald (q := 92) dX5_passHouse_91 rfl gkX5 hT (i := 4) rfl (by first | assumption | exact ev_ix_nI (by omega) (by decide)) ?_
      refine st_iload_n (q := 93) dX5_passHouse_92 rfl rfl rfl ?_
      refine st_iadd (q := 94) dX5_passHouse_93 rfl ?_
      refine st_iconst (q := 95) dX5_passHouse_94 rfl ic_4 ?_
      refine st_isub (q := 96) dX5_passHouse_95 rfl ?_
      refine st_bipush (q := 98) dX5_passHouse_96 rfl bp_99 ?_
      refine sp_SN2 (q := 101) (M' := mX6_bounded) dX5_passHouse_98 rfl ok_X6_bounded mk_X6_bounded ml_X5_136 ⟨Nat.le_of_ble_eq_true rfl, Nat.le_of_ble_eq_true rfl⟩ rfl (Nat.le_of_ble_eq_true rfl) ⟨rfl, rfl⟩ (c_X6_bounded) ?_
      refine g_iast (q := 102) dX5_passHouse_101 rfl gkX5 hT (i := 4) rfl (by first | assumption | exact ev_ix_nI (by omega) (by decide)) (fun w hT hF_ => ?_)
      replace hF := Fr.tr hF hF_
      refine st_return dX5_passHouse_102 rfl ?_
      first
        | (rw [if_pos (zI_1.mp c_33)]; exact ⟨rfl, rfl, hT, hF⟩)
        | (rw [if_neg (by rw [zI_0.mp c_33]; decide)]; exact ⟨rfl, rfl, hT, hF⟩)
  · rw [phT, if_neg c_10]
    refine st_aload_n (q := 14) dX5_passHouse_13 rfl rfl rfl ?_
    refine st_dup (q := 15) dX5_passHouse_14 rfl rfl ?_
    refine g_get (q := 18) dX5_passHouse_15 rfl fl_X5_55.g hT rfl ?_
    refine st_iconst (q := 19) dX5_passHouse_18 rfl ic_1 ?_
    refine st_iload_n (q := 20) dX5_passHouse_19 rfl rfl rfl ?_
    refine st_ishl (q := 21) dX5_passHouse_20 rfl ?_
    refine st_iconst (q := 22) dX5_passHouse_21 rfl ic_m1 ?_
    refine st_ixor (q := 23) dX5_passHouse_22 rfl ?_
    refine st_iand (q := 24) dX5_passHouse_23 rfl ?_
    refine g_put (q := 27) dX5_passHouse_24 rfl fl_X5_55 gkX5 hT rfl rfl rfl (fun w hT hF_ => ?_)
    replace hF := Fr.tr hF hF_
    refine st_return dX5_passHouse_27 rfl ?_
    exact ⟨rfl, rfl, hT, hF⟩
set_option maxRecDepth 100000 in
set_option maxHeartbeats 4000000 in
theorem c_X5_passDay {E : ev_E} {n : Nat} {w : ev_W} {T : gT} {b : Nat} (hT : TR T b n w) {nt : Nat} (e6 : T 6 0 = nI nt) (hnt : nt ≤ 8) {nh : Nat} (e0 : T 0 0 = nI nh) (hnh : nh ≤ 4) {ri wd : Int32} : Ct E mX5_passDay [.ref b, .int ri, .int wd] n w (ev_ch none n w b (b + 10) (TR (pdT T ri wd nh nt) b n)) := by
  refine Ct.of 1 (by decide) (Nat.le_of_ble_eq_true rfl) rfl ?_
  have hF : Fr b (b + 10) w w := Fr.rf
  have lp : ∀ (k i : Nat), i + k = nh → ∀ (w1 : ev_W), TR (phs nt wd (tup T 15 0 (bdI (T 15 0 + ri - 4) 20)) i) b n w1 → Fr b (b + 10) w w1 → Ev E mX5_passDay 19 [some (.ref b), some (.int ri), some (.int wd), some (.int (nI i))] [] n w1 (0, 0) (ev_ch none n w b (b + 10) (TR (pdT T ri wd nh nt) b n)) := by
    clear hF hT
    have f0 : ∀ i, phs nt wd (tup T 15 0 (bdI (T 15 0 + ri - 4) 20)) i 0 0 = nI nh := fun i => by rw [phs_n (by decide) (by decide) (by decide) (by decide) (by decide) (by decide)]; exact e0
    have f6 : ∀ i, phs nt wd (tup T 15 0 (bdI (T 15 0 + ri - 4) 20)) i 6 0 = nI nt := fun i => by rw [phs_n (by decide) (by decide) (by decide) (by decide) (by decide) (by decide)]; exact e6
    intro k
    induction k with
    | zero =>
      intro i hi w hT hF
      obtain rfl : i = nh := hi
      refine st_iload_n (q := 20) dX5_passDay_19 rfl rfl rfl ?_
      refine st_aload_n (q := 21) dX5_passDay_20 rfl rfl rfl ?_
      refine g_get (q := 24) dX5_passDay_21 rfl fl_X5_49.g hT rfl ?_
      refine st_icmp_ge (q := 27) (tgt := 39) dX5_passDay_24 rfl rfl (fun c_24 => ?_) (fun c_24 => False.elim (c_24 (by rw [f0]; exact nI_le (by omega) (by omega))))
      refine st_aload_n (q := 40) dX5_passDay_39 rfl rfl rfl ?_
      refine st_dup (q := 41) dX5_passDay_40 rfl rfl ?_
      refine g_get (q := 44) dX5_passDay_41 rfl fl_X5_67.g hT rfl ?_
      refine st_iconst (q := 45) dX5_passDay_44 rfl ic_1 ?_
      refine st_iadd (q := 46) dX5_passDay_45 rfl ?_
      refine g_put (q := 49) dX5_passDay_46 rfl fl_X5_67 gkX5 hT rfl rfl rfl (fun w hT hF_ => ?_)
      replace hF := Fr.tr hF hF_
      refine st_return dX5_passDay_49 rfl ?_
      exact ⟨rfl, rfl, hT, hF⟩
    | succ k ih =>
      intro i hi w hT hF
      refine st_iload_n (q := 20) dX5_passDay_19 rfl rfl rfl ?_
      refine st_aload_n (q := 21) dX5_passDay_20 rfl rfl rfl ?_
      refine g_get (q := 24) dX5_passDay_21 rfl fl_X5_49.g hT rfl ?_
      refine st_icmp_ge (q := 27) (tgt := 39) dX5_passDay_24 rfl rfl (fun c_24 => False.elim (absurd (by rw [f0] at c_24; exact c_24) (nI_ge (a := i) (b := nh) (by omega) (by omega)))) (fun c_24 => ?_)
      refine st_aload_n (q := 28) dX5_passDay_27 rfl rfl rfl ?_
      refine st_iload_n (q := 29) dX5_passDay_28 rfl rfl rfl ?_
      refine st_iload_n (q := 30) dX5_passDay_29 rfl rfl rfl ?_
      refine sm_V2 (q := 33) (M' := mX5_passHouse) dX5_passDay_30 rfl ok_X5_passHouse mk_X5_passHouse ml_X5_139 ⟨Nat.le_of_ble_eq_true rfl, Nat.le_of_ble_eq_true rfl⟩ rfl (Nat.le_of_ble_eq_true rfl) (g_rv hT rfl) ⟨rfl, rfl⟩ (c_X5_passHouse hT (f6 i) hnt (ev_ix_nI (j := i) (by omega) (by decide))) ?_
      intro _ _ w h9 _
      obtain ⟨rfl, rfl, hT, hF_⟩ := h9
      replace hF := Fr.tr hF hF_
      refine st_iinc (q := 36) (L' := [_, _, _, _]) dX5_passDay_33 rfl rfl (nI_succ _).symm (Nat.le_of_ble_eq_true rfl) rfl ?_
      refine st_goto (q := 19) dX5_passDay_36 rfl ?_
      exact ih (i + 1) (by omega) w hT hF
  refine st_aload_n (q := 1) dX5_passDay_0 rfl rfl rfl ?_
  refine st_aload_n (q := 2) dX5_passDay_1 rfl rfl rfl ?_
  refine g_get (q := 5) dX5_passDay_2 rfl fl_X5_64.g hT rfl ?_
  refine st_iload_n (q := 6) dX5_passDay_5 rfl rfl rfl ?_
  refine st_iadd (q := 7) dX5_passDay_6 rfl ?_
  refine st_iconst (q := 8) dX5_passDay_7 rfl ic_4 ?_
  refine st_isub (q := 9) dX5_passDay_8 rfl ?_
  refine st_bipush (q := 11) dX5_passDay_9 rfl bp_20 ?_
  refine sp_SN2 (q := 14) (M' := mX6_bounded) dX5_passDay_11 rfl ok_X6_bounded mk_X6_bounded ml_X5_136 ⟨Nat.le_of_ble_eq_true rfl, Nat.le_of_ble_eq_true rfl⟩ rfl (Nat.le_of_ble_eq_true rfl) ⟨rfl, rfl⟩ (c_X6_bounded) ?_
  refine g_put (q := 17) dX5_passDay_14 rfl fl_X5_64 gkX5 hT rfl rfl rfl (fun w hT hF_ => ?_)
  replace hF := Fr.tr hF hF_
  refine st_iconst (q := 18) dX5_passDay_17 rfl ic_0 ?_
  refine st_istore_n (q := 19) (L' := [_, _, _, _]) dX5_passDay_18 rfl rfl (Nat.le_of_ble_eq_true rfl) rfl ?_
  exact lp nh 0 (by omega) w hT hF
