def lkF (s : Nat → Int32) (u : Int32) (l : Nat) : Nat → Int32
  | 0 => nI l
  | k + 1 => if s (l + (k + 1)) ≤ u then nI (l + (k + 1)) else lkF s u l k
def leakS (T : gT) (nh nt dd : Nat) (x y : Int32) : Int32 := if inI x 0 (nI nh - 1) = true then (if inI y 0 60 = true then lkF (fun v => dysT (tup T 3 x.toNatClampNeg (nI v)) dd nh nt y.toNatClampNeg 17 0) (dysT T dd nh nt y.toNatClampNeg 17 0) (T 3 x.toNatClampNeg).toNatClampNeg (3 - (T 3 x.toNatClampNeg).toNatClampNeg) else -1) else -1
theorem nI_dn (k : Nat) : nI (k + 1) + Int32.ofInt (-1) = nI k := by rw [nI_succ, show Int32.ofInt (-1) = (-1 : Int32) from rfl, Int32.add_assoc, show (1 : Int32) + -1 = 0 from by decide, Int32.add_zero]
set_option maxRecDepth 100000 in
set_option maxHeartbeats 4000000 in
theorem c_X6_leak {E : ev_E} {X Tn : gT} {Ti : Nat → gT} {Tp Sg : gT} {Sh : Nat → gT} {n : Nat} {w : ev_W} {w0 : ev_W} (hF : Fr 0 70 w0 w) (hX : XI X Tn Ti Tp Sg Sh n w) {nh nt dd : Nat} (hK : TK Tn nh nt dd) (hL : ∀ j, j < nh → ∃ l, l ≤ 3 ∧ Tn 3 j = nI l) {x y : Int32} : Ct E mX6_leak [.ref 0, .int x, .int y] n w (ev_xr (leakS Tn nh nt dd x y) n w0 (XI X Tn Ti Tp Sg Sh n)) := by
  refine Ct.of 3 (by decide) (Nat.le_of_ble_eq_true rfl) rfl ?_
  have hd9 := hK.2.2.2.2.2.2
  refine st_aload_n (q := 1) dX6_leak_0 rfl rfl rfl ?_
  refine g_getO (q := 4) dX6_leak_1 rfl fl_X6_10.g hX.x rfl ?_
  refine st_iload_n (q := 5) dX6_leak_4 rfl rfl rfl ?_
  refine sp_V1 (q := 8) (M' := mX5_isHouse) dX6_leak_5 rfl ok_X5_isHouse mk_X5_isHouse ml_X6_122 ⟨Nat.le_of_ble_eq_true rfl, Nat.le_of_ble_eq_true rfl⟩ rfl (Nat.le_of_ble_eq_true rfl) (g_rv hX.now rfl) ⟨rfl, rfl⟩ (c_X5_isHouse hX.now) ?_
  refine st_if_eq (q := 11) (tgt := 18) dX6_leak_8 rfl rfl (fun c_8 => ?_) (fun c_8 => ?_)
  · refine st_iconst (q := 19) dX6_leak_18 rfl ic_m1 ?_
    refine st_ireturn dX6_leak_19 rfl ?_
    first
      | exact ⟨by rw [leakS, if_neg (by rw [← hK.1, zI_0.mp c_8]; decide)], rfl, hX, hF⟩
      | exact ⟨by rw [leakS, if_pos (by rw [← hK.1]; exact zI_1.mp c_8), if_neg (by rw [zI_0.mp c_15]; decide)], rfl, hX, hF⟩
  · refine st_iload_n (q := 12) dX6_leak_11 rfl rfl rfl ?_
    refine sp_S1 (q := 15) (M' := mX6_isAhead) dX6_leak_12 rfl ok_X6_isAhead mk_X6_isAhead ml_X6_193 ⟨Nat.le_of_ble_eq_true rfl, Nat.le_of_ble_eq_true rfl⟩ rfl (Nat.le_of_ble_eq_true rfl) ⟨rfl, rfl⟩ (c_X6_isAhead) ?_
    refine st_if_ne (q := 18) (tgt := 20) dX6_leak_15 rfl rfl (fun c_15 => ?_) (fun c_15 => ?_)
    · obtain ⟨j, hj, rfl⟩ := inI_ix (by rw [← hK.1]; exact zI_1.mp c_8) (by have := hK.2.1; omega)
      have h1 : inI (nI j) 0 (nI nh - 1) = true := by rw [← hK.1]; exact zI_1.mp c_8
      have hjc : (nI j).toNatClampNeg = j := nI_clamp (by have := hK.2.1; omega)
      have hK4 := hK.2.1
      obtain ⟨m, hm, rfl⟩ := inI_k (k := 60) (zI_1.mp c_15) (by decide)
      have h60 : inI (nI m) 0 60 = true := zI_1.mp c_15
      have hmc : (nI m).toNatClampNeg = m := nI_clamp (by omega)
      obtain ⟨l, hl, el⟩ := hL j hj
      have hlc : (nI l).toNatClampNeg = l := nI_clamp (by omega)
      refine st_aload_n (q := 21) dX6_leak_20 rfl rfl rfl ?_
      refine sm_V0 (q := 24) (M' := mX6_copyOfNow) dX6_leak_21 rfl ok_X6_copyOfNow mk_X6_copyOfNow ml_X6_196 ⟨Nat.le_of_ble_eq_true rfl, Nat.le_of_ble_eq_true rfl⟩ rfl (Nat.le_of_ble_eq_true rfl) (g_rv hX.x rfl) ⟨rfl, rfl⟩ (c_X6_copyOfNow hX) ?_
      intro _ n w h9 _
      obtain ⟨rfl, rfl, hX, hQ, hF_⟩ := h9
      replace hF := Fr.tr hF (hF_.mono (by omega) (by omega))
      refine st_iload_n (q := 25) dX6_leak_24 rfl rfl rfl ?_
      refine sm_S2 (q := 28) (M' := mX6_sorrowBehind) dX6_leak_25 rfl ok_X6_sorrowBehind mk_X6_sorrowBehind ml_X6_234 ⟨Nat.le_of_ble_eq_true rfl, Nat.le_of_ble_eq_true rfl⟩ rfl (Nat.le_of_ble_eq_true rfl) ⟨rfl, rfl⟩ (c_X6_sorrowBehind hQ (hK) (m := m) (by omega)) ?_
      intro _ n w h9 _
      obtain ⟨rfl, rfl, hQ, hF_⟩ := h9
      replace hX := hX.setTrial hQ hF_
      replace hF := Fr.tr hF (hF_.mono (by omega) (by omega))
      refine st_istore_n (q := 29) (L' := [_, _, _, _, _, _]) dX6_leak_28 rfl rfl (Nat.le_of_ble_eq_true rfl) rfl ?_
      refine st_iconst (q := 30) dX6_leak_29 rfl ic_3 ?_
      refine st_istore (q := 32) (L' := [_, _, _, _, _, _]) dX6_leak_30 rfl (Nat.le_of_ble_eq_true rfl) rfl ?_
      have lp : ∀ (k : Nat), l + k ≤ 3 → ∀ (w1 : ev_W) (lq : Option Value), XI X Tn Ti Tp Sg Sh n w1 → Fr 0 70 w0 w1 → lkF (fun v => dysT (tup Tn 3 j (nI v)) dd nh nt m 17 0) (dysT Tn dd nh nt m 17 0) l k = leakS Tn nh nt dd (nI j) (nI m) → Ev E mX6_leak 32 [some (.ref 0), some (.int (nI j)), some (.int (nI m)), some (.int (dysT Tn dd nh nt m 17 0)), some (.int (nI (l + k))), lq] [] n w1 (0, 0) (ev_xr (leakS Tn nh nt dd (nI j) (nI m)) n w0 (XI X Tn Ti Tp Sg Sh n)) := by
        clear hX hF hQ
        intro k
        induction k with
        | zero =>
          intro hk w lq hX hF hs
          refine st_iload (q := 34) dX6_leak_32 rfl rfl ?_
          refine st_aload_n (q := 35) dX6_leak_34 rfl rfl rfl ?_
          refine g_getO (q := 38) dX6_leak_35 rfl fl_X6_10.g hX.x rfl ?_
          refine g_getA (q := 41) dX6_leak_38 rfl fl_X6_238 hX.now rfl ?_
          refine st_iload_n (q := 42) dX6_leak_41 rfl rfl rfl ?_
          refine g_iald (q := 43) dX6_leak_42 rfl gkX5 hX.now (i := 3) rfl (by exact ev_ix_nI (j := j) (by omega) (by decide)) ?_
          refine st_icmp_le (q := 46) (tgt := 80) dX6_leak_43 rfl rfl (fun c_43 => ?_) (fun c_43 => False.elim (c_43 (by rw [el]; exact Int32.le_refl _)))
          refine st_aload_n (q := 81) dX6_leak_80 rfl rfl rfl ?_
          refine g_getO (q := 84) dX6_leak_81 rfl fl_X6_10.g hX.x rfl ?_
          refine g_getA (q := 87) dX6_leak_84 rfl fl_X6_238 hX.now rfl ?_
          refine st_iload_n (q := 88) dX6_leak_87 rfl rfl rfl ?_
          refine g_iald (q := 89) dX6_leak_88 rfl gkX5 hX.now (i := 3) rfl (by exact ev_ix_nI (j := j) (by omega) (by decide)) ?_
          refine st_ireturn dX6_leak_89 rfl ?_
          exact ⟨by rw [← hs, el]; rfl, rfl, hX, hF⟩
        | succ k ih =>
          intro hk w lq hX hF hs
          refine st_iload (q := 34) dX6_leak_32 rfl rfl ?_
          refine st_aload_n (q := 35) dX6_leak_34 rfl rfl rfl ?_
          refine g_getO (q := 38) dX6_leak_35 rfl fl_X6_10.g hX.x rfl ?_
          refine g_getA (q := 41) dX6_leak_38 rfl fl_X6_238 hX.now rfl ?_
          refine st_iload_n (q := 42) dX6_leak_41 rfl rfl rfl ?_
          refine g_iald (q := 43) dX6_leak_42 rfl gkX5 hX.now (i := 3) rfl (by exact ev_ix_nI (j := j) (by omega) (by decide)) ?_
          refine st_icmp_le (q := 46) (tgt := 80) dX6_leak_43 rfl rfl (fun c_43 => False.elim (absurd c_43 (by rw [el]; exact nI_ge (a := l) (b := l + (k + 1)) (by omega) (by omega)))) (fun c_43 => ?_)
          refine st_aload_n (q := 47) dX6_leak_46 rfl rfl rfl ?_
          refine sm_V0 (q := 50) (M' := mX6_copyOfNow) dX6_leak_47 rfl ok_X6_copyOfNow mk_X6_copyOfNow ml_X6_196 ⟨Nat.le_of_ble_eq_true rfl, Nat.le_of_ble_eq_true rfl⟩ rfl (Nat.le_of_ble_eq_true rfl) (g_rv hX.x rfl) ⟨rfl, rfl⟩ (c_X6_copyOfNow hX) ?_
          intro _ n w h9 _
          obtain ⟨rfl, rfl, hX, hQ, hF_⟩ := h9
          replace hF := Fr.tr hF (hF_.mono (by omega) (by omega))
          refine st_astore (q := 52) (L' := [_, _, _, _, _, _]) dX6_leak_50 rfl (Nat.le_of_ble_eq_true rfl) rfl ?_
          refine st_aload (q := 54) dX6_leak_52 rfl rfl ?_
          refine g_getA (q := 57) dX6_leak_54 rfl fl_X6_238 hQ rfl ?_
          refine st_iload_n (q := 58) dX6_leak_57 rfl rfl rfl ?_
          refine st_iload (q := 60) dX6_leak_58 rfl rfl ?_
          refine g_iast (q := 61) dX6_leak_60 rfl gkX5 hQ (i := 3) rfl (by exact ev_ix_nI (j := j) (by omega) (by decide)) (fun w hQ hF_ => ?_)
          replace hX := hX.setTrial hQ hF_
          replace hF := Fr.tr hF (hF_.mono (by omega) (by omega))
          refine st_aload (q := 63) dX6_leak_61 rfl rfl ?_
          refine st_iload_n (q := 64) dX6_leak_63 rfl rfl rfl ?_
          refine sm_S2 (q := 67) (M' := mX6_sorrowBehind) dX6_leak_64 rfl ok_X6_sorrowBehind mk_X6_sorrowBehind ml_X6_234 ⟨Nat.le_of_ble_eq_true rfl, Nat.le_of_ble_eq_true rfl⟩ rfl (Nat.le_of_ble_eq_true rfl) ⟨rfl, rfl⟩ (c_X6_sorrowBehind hQ (hK.tp (by decide) (by decide) (by decide) (by decide)) (m := m) (by omega)) ?_
          intro _ n w h9 _
          obtain ⟨rfl, rfl, hQ, hF_⟩ := h9
          replace hX := hX.setTrial hQ hF_
          replace hF := Fr.tr hF (hF_.mono (by omega) (by omega))
          refine st_iload_n (q := 68) dX6_leak_67 rfl rfl rfl ?_
          refine st_icmp_gt (q := 71) (tgt := 74) dX6_leak_68 rfl rfl (fun c_68 => ?_) (fun c_68 => ?_)
          · refine st_iinc (q := 77) (L' := [_, _, _, _, _, _]) dX6_leak_74 rfl rfl (nI_dn _) (Nat.le_of_ble_eq_true rfl) rfl ?_
            refine st_goto (q := 32) dX6_leak_77 rfl ?_
            exact ih (by omega) w _ hX hF (by rw [← hs, lkF, if_neg (Int32.not_le.mpr c_68)])
          · refine st_iload (q := 73) dX6_leak_71 rfl rfl ?_
            refine st_ireturn dX6_leak_73 rfl ?_
            exact ⟨by rw [← hs, lkF, if_pos (Int32.not_lt.mp c_68)], rfl, hX, hF⟩
      have z9 := lp (3 - l) (by omega) w none hX hF (by rw [leakS, if_pos h1, if_pos h60, hjc, hmc, el, hlc])
      rw [show l + (3 - l) = 3 from by omega] at z9
      exact z9
    · refine st_iconst (q := 19) dX6_leak_18 rfl ic_m1 ?_
      refine st_ireturn dX6_leak_19 rfl ?_
      first
        | exact ⟨by rw [leakS, if_neg (by rw [← hK.1, zI_0.mp c_8]; decide)], rfl, hX, hF⟩
        | exact ⟨by rw [leakS, if_pos (by rw [← hK.1]; exact zI_1.mp c_8), if_neg (by rw [zI_0.mp c_15]; decide)], rfl, hX, hF⟩
def boF (b l y s : Int32) : Int32 := if b = -4 then b else if y = 0 then b else l - s
def mn1 (p : Nat → Bool) (s c : Nat → Int32) (i : Nat) (r : Int32 × Int32) : Int32 × Int32 := if p i = true then (if s i < r.1 then (s i, c i) else r) else r
def mnF (p : Nat → Bool) (s c : Nat → Int32) (r : Int32 × Int32) : Nat → Int32 × Int32
  | 0 => r
  | k + 1 => mn1 p s c k (mnF p s c r k)
theorem mnF_y {p : Nat → Bool} {s c : Nat → Int32} {r : Int32 × Int32} {k : Nat} (hp : p k = true) (h : ¬ (mnF p s c r k).1 ≤ s k) : mnF p s c r (k + 1) = (s k, c k) := by rw [mnF, mn1, if_pos hp, if_pos (Int32.not_le.mp h)]
theorem mnF_k {p : Nat → Bool} {s c : Nat → Int32} {r : Int32 × Int32} {k : Nat} (hp : p k = true) (h : (mnF p s c r k).1 ≤ s k) : mnF p s c r (k + 1) = mnF p s c r k := by rw [mnF, mn1, if_pos hp, if_neg (Int32.not_lt.mpr h)]
theorem mnF_n {p : Nat → Bool} {s c : Nat → Int32} {r : Int32 × Int32} {k : Nat} (hp : ¬ p k = true) : mnF p s c r (k + 1) = mnF p s c r k := by rw [mnF, mn1, if_neg hp]
def kindS (T : gT) (nh nt dd : Nat) (x y z : Int32) : Int32 := if inI x 0 (nI nt - 1) = true then (if inI y 0 60 = true then (if inI z 0 1 = true then
  (let r := mnF (fun _ => true) (fun k => dysT (tup T 7 x.toNatClampNeg (nI k)) dd nh nt y.toNatClampNeg 17 0) nI (1000, -4) 4
   boF r.2 r.1 z (T 17 0)) else -1) else -1) else -1
def saveF (T : gT) (nh nt dd m : Nat) : Nat → Int32 × Int32 := mnF (fun i => decide (0 ≤ (puT T (nI i) nt).1)) (fun i => dysT (puT T (nI i) nt).2 dd nh nt m 17 0) nI (dysT T dd nh nt m 17 0, -4)
def saveS (T : gT) (nh nt dd : Nat) (x y : Int32) : Int32 := if inI x 0 60 = true then (if inI y 0 1 = true then
  (boF (saveF T nh nt dd x.toNatClampNeg nt).2 (saveF T nh nt dd x.toNatClampNeg nt).1 y (T 17 0)) else -1) else -1
def chT (T : gT) (i j : Nat) : gT := tup (tup T 8 i (T 8 j)) 8 j (T 8 i)
def swIn (T : gT) (nh nt dd m i : Nat) (r : Int32 × Int32) : Nat → Int32 × Int32 := mnF (fun k => mcT T i (i + 1 + k)) (fun k => dysT (chT T i (i + 1 + k)) dd nh nt m 17 0) (fun k => 10 * nI i + nI (i + 1 + k)) r
def swF (T : gT) (nh nt dd m : Nat) : Nat → Int32 × Int32
  | 0 => (dysT T dd nh nt m 17 0, -4)
  | i + 1 => swIn T nh nt dd m i (swF T nh nt dd m i) (nt - (i + 1))
def swapS (T : gT) (nh nt dd : Nat) (x y : Int32) : Int32 := if inI x 0 60 = true then (if inI y 0 1 = true then
  (boF (swF T nh nt dd x.toNatClampNeg nt).2 (swF T nh nt dd x.toNatClampNeg nt).1 y (T 17 0)) else -1) else -1
set_option maxRecDepth 100000 in
set_option maxHeartbeats 4000000 in
theorem c_X6_bestOrSorrow {E : ev_E} {X Tn : gT} {Ti : Nat → gT} {Tp Sg : gT} {Sh : Nat → gT} {n : Nat} {w : ev_W} (hX : XI X Tn Ti Tp Sg Sh n w) {x y z : Int32} : Ct E mX6_bestOrSorrow [.ref 0, .int x, .int y, .int z] n w (ev_is (some (.int (boF x y z (Tn 17 0)))) n w) := by
  refine Ct.of 0 (by decide) (Nat.le_of_ble_eq_true rfl) rfl ?_
  refine st_iload_n (q := 1) dX6_bestOrSorrow_0 rfl rfl rfl ?_
  refine st_bipush (q := 3) dX6_bestOrSorrow_1 rfl bp_m4 ?_
  refine st_icmp_eq (q := 6) (tgt := 10) dX6_bestOrSorrow_3 rfl rfl (fun c_3 => ?_) (fun c_3 => ?_)
  · refine st_iload_n (q := 11) dX6_bestOrSorrow_10 rfl rfl rfl ?_
    refine st_goto (q := 23) dX6_bestOrSorrow_11 rfl ?_
    refine st_ireturn dX6_bestOrSorrow_23 rfl ?_
    exact ⟨by simp_all [boF], rfl, rfl⟩
  · refine st_iload_n (q := 7) dX6_bestOrSorrow_6 rfl rfl rfl ?_
    refine st_if_ne (q := 10) (tgt := 14) dX6_bestOrSorrow_7 rfl rfl (fun c_7 => ?_) (fun c_7 => ?_)
    · refine st_iload_n (q := 15) dX6_bestOrSorrow_14 rfl rfl rfl ?_
      refine st_aload_n (q := 16) dX6_bestOrSorrow_15 rfl rfl rfl ?_
      refine g_getO (q := 19) dX6_bestOrSorrow_16 rfl fl_X6_10.g hX.x rfl ?_
      refine g_get (q := 22) dX6_bestOrSorrow_19 rfl fl_X6_107.g hX.now rfl ?_
      refine st_isub (q := 23) dX6_bestOrSorrow_22 rfl ?_
      refine st_ireturn dX6_bestOrSorrow_23 rfl ?_
      exact ⟨by simp_all [boF], rfl, rfl⟩
    · refine st_iload_n (q := 11) dX6_bestOrSorrow_10 rfl rfl rfl ?_
      refine st_goto (q := 23) dX6_bestOrSorrow_11 rfl ?_
      refine st_ireturn dX6_bestOrSorrow_23 rfl ?_
      exact ⟨by simp_all [boF], rfl, rfl⟩
set_option maxRecDepth 100000 in
set_option maxHeartbeats 4000000 in
theorem c_X6_kind {E : ev_E} {X Tn : gT} {Ti : Nat → gT} {Tp Sg : gT} {Sh : Nat → gT} {n : Nat} {w : ev_W} {w0 : ev_W} (hF : Fr 0 70 w0 w) (hX : XI X Tn Ti Tp Sg Sh n w) {nh nt dd : Nat} (hK : TK Tn nh nt dd) {x y z : Int32} : Ct E mX6_kind [.ref 0, .int x, .int y, .int z] n w (ev_xr (kindS Tn nh nt dd x y z) n w0 (XI X Tn Ti Tp Sg Sh n)) := by
  refine Ct.of 5 (by decide) (Nat.le_of_ble_eq_true rfl) rfl ?_
  have hd9 := hK.2.2.2.2.2.2
  refine st_aload_n (q := 1) dX6_kind_0 rfl rfl rfl ?_
  refine g_getO (q := 4) dX6_kind_1 rfl fl_X6_10.g hX.x rfl ?_
  refine st_iload_n (q := 5) dX6_kind_4 rfl rfl rfl ?_
  refine sp_V1 (q := 8) (M' := mX5_isThing) dX6_kind_5 rfl ok_X5_isThing mk_X5_isThing ml_X6_136 ⟨Nat.le_of_ble_eq_true rfl, Nat.le_of_ble_eq_true rfl⟩ rfl (Nat.le_of_ble_eq_true rfl) (g_rv hX.now rfl) ⟨rfl, rfl⟩ (c_X5_isThing hX.now) ?_
  refine st_if_eq (q := 11) (tgt := 27) dX6_kind_8 rfl rfl (fun c_8 => ?_) (fun c_8 => ?_)
  · refine st_iconst (q := 28) dX6_kind_27 rfl ic_m1 ?_
    refine st_ireturn dX6_kind_28 rfl ?_
    first
      | exact ⟨by rw [kindS, if_neg (by rw [← hK.2.2.1, zI_0.mp c_8]; decide)], rfl, hX, hF⟩
      | exact ⟨by rw [kindS, if_pos (by rw [← hK.2.2.1]; exact zI_1.mp c_8), if_neg (by rw [zI_0.mp c_15]; decide)], rfl, hX, hF⟩
      | exact ⟨by rw [kindS, if_pos (by rw [← hK.2.2.1]; exact zI_1.mp c_8), if_pos (zI_1.mp c_15), if_neg (by rw [zI_0.mp c_24]; decide)], rfl, hX, hF⟩
  · refine st_iload_n (q := 12) dX6_kind_11 rfl rfl rfl ?_
    refine sp_S1 (q := 15) (M' := mX6_isAhead) dX6_kind_12 rfl ok_X6_isAhead mk_X6_isAhead ml_X6_193 ⟨Nat.le_of_ble_eq_true rfl, Nat.le_of_ble_eq_true rfl⟩ rfl (Nat.le_of_ble_eq_true rfl) ⟨rfl, rfl⟩ (c_X6_isAhead) ?_
    refine st_if_eq (q := 18) (tgt := 27) dX6_kind_15 rfl rfl (fun c_15 => ?_) (fun c_15 => ?_)
    · refine st_iconst (q := 28) dX6_kind_27 rfl ic_m1 ?_
      refine st_ireturn dX6_kind_28 rfl ?_
      first
        | exact ⟨by rw [kindS, if_neg (by rw [← hK.2.2.1, zI_0.mp c_8]; decide)], rfl, hX, hF⟩
        | exact ⟨by rw [kindS, if_pos (by rw [← hK.2.2.1]; exact zI_1.mp c_8), if_neg (by rw [zI_0.mp c_15]; decide)], rfl, hX, hF⟩
        | exact ⟨by rw [kindS, if_pos (by rw [← hK.2.2.1]; exact zI_1.mp c_8), if_pos (zI_1.mp c_15), if_neg (by rw [zI_0.mp c_24]; decide)], rfl, hX, hF⟩
    · refine st_iload_n (q := 19) dX6_kind_18 rfl rfl rfl ?_
      refine st_iconst (q := 20) dX6_kind_19 rfl ic_0 ?_
      refine st_iconst (q := 21) dX6_kind_20 rfl ic_1 ?_
      refine sp_S3 (q := 24) (M' := mX6_within) dX6_kind_21 rfl ok_X6_within mk_X6_within ml_X6_51 ⟨Nat.le_of_ble_eq_true rfl, Nat.le_of_ble_eq_true rfl⟩ rfl (Nat.le_of_ble_eq_true rfl) ⟨rfl, rfl⟩ (c_X6_within) ?_
      refine st_if_ne (q := 27) (tgt := 29) dX6_kind_24 rfl rfl (fun c_24 => ?_) (fun c_24 => ?_)
      · obtain ⟨j, hj, rfl⟩ := inI_ix (by rw [← hK.2.2.1]; exact zI_1.mp c_8) (by have := hK.2.2.2.1; omega)
        have h1 : inI (nI j) 0 (nI nt - 1) = true := by rw [← hK.2.2.1]; exact zI_1.mp c_8
        have hjc : (nI j).toNatClampNeg = j := nI_clamp (by have := hK.2.2.2.1; omega)
        have hK4 := hK.2.2.2.1
        obtain ⟨m, hm, rfl⟩ := inI_k (k := 60) (zI_1.mp c_15) (by decide)
        have h60 : inI (nI m) 0 60 = true := zI_1.mp c_15
        have hmc : (nI m).toNatClampNeg = m := nI_clamp (by omega)
        refine st_sipush (q := 32) dX6_kind_29 rfl sp_1000 ?_
        refine st_istore (q := 34) (L' := [_, _, _, _, _, _, _, _, _]) dX6_kind_32 rfl (Nat.le_of_ble_eq_true rfl) rfl ?_
        refine st_bipush (q := 36) dX6_kind_34 rfl bp_m4 ?_
        refine st_istore (q := 38) (L' := [_, _, _, _, _, _, _, _, _]) dX6_kind_36 rfl (Nat.le_of_ble_eq_true rfl) rfl ?_
        refine st_iconst (q := 39) dX6_kind_38 rfl ic_0 ?_
        refine st_istore (q := 41) (L' := [_, _, _, _, _, _, _, _, _]) dX6_kind_39 rfl (Nat.le_of_ble_eq_true rfl) rfl ?_
        have lp : ∀ (k i : Nat), i + k = 4 → ∀ (w1 : ev_W) (la lb : Option Value), XI X Tn Ti Tp Sg Sh n w1 → Fr 0 70 w0 w1 → Ev E mX6_kind 41 [some (.ref 0), some (.int (nI j)), some (.int (nI m)), some (.int z), some (.int (mnF (fun _ => true) (fun k => dysT (tup Tn 7 j (nI k)) dd nh nt m 17 0) nI (1000, -4) i).1), some (.int (mnF (fun _ => true) (fun k => dysT (tup Tn 7 j (nI k)) dd nh nt m 17 0) nI (1000, -4) i).2), some (.int (nI i)), la, lb] [] n w1 (0, 0) (ev_xr (kindS Tn nh nt dd (nI j) (nI m) z) n w0 (XI X Tn Ti Tp Sg Sh n)) := by
          clear hX hF
          intro k
          induction k with
          | zero =>
            intro i hi w la lb hX hF
            obtain rfl : i = 4 := hi
            refine st_iload (q := 43) dX6_kind_41 rfl rfl ?_
            refine st_iconst (q := 44) dX6_kind_43 rfl ic_3 ?_
            refine st_icmp_gt (q := 47) (tgt := 91) dX6_kind_44 rfl rfl (fun c_44 => ?_) (fun c_44 => False.elim (c_44 (by decide)))
            refine st_aload_n (q := 92) dX6_kind_91 rfl rfl rfl ?_
            refine st_iload (q := 94) dX6_kind_92 rfl rfl ?_
            refine st_iload (q := 96) dX6_kind_94 rfl rfl ?_
            refine st_iload_n (q := 97) dX6_kind_96 rfl rfl rfl ?_
            refine sp_V3 (q := 100) (M' := mX6_bestOrSorrow) dX6_kind_97 rfl ok_X6_bestOrSorrow mk_X6_bestOrSorrow ml_X6_249 ⟨Nat.le_of_ble_eq_true rfl, Nat.le_of_ble_eq_true rfl⟩ rfl (Nat.le_of_ble_eq_true rfl) (g_rv hX.x rfl) ⟨rfl, rfl⟩ (c_X6_bestOrSorrow hX) ?_
            refine st_ireturn dX6_kind_100 rfl ?_
            exact ⟨by rw [kindS, if_pos h1, if_pos h60, if_pos (zI_1.mp c_24), hjc, hmc], rfl, hX, hF⟩
          | succ k ih =>
            intro i hi w la lb hX hF
            refine st_iload (q := 43) dX6_kind_41 rfl rfl ?_
            refine st_iconst (q := 44) dX6_kind_43 rfl ic_3 ?_
            refine st_icmp_gt (q := 47) (tgt := 91) dX6_kind_44 rfl rfl (fun c_44 => False.elim (absurd c_44 (nI_nlt (a := 3) (b := i) (by omega) (by omega)))) (fun c_44 => ?_)
            refine st_aload_n (q := 48) dX6_kind_47 rfl rfl rfl ?_
            refine sm_V0 (q := 51) (M' := mX6_copyOfNow) dX6_kind_48 rfl ok_X6_copyOfNow mk_X6_copyOfNow ml_X6_196 ⟨Nat.le_of_ble_eq_true rfl, Nat.le_of_ble_eq_true rfl⟩ rfl (Nat.le_of_ble_eq_true rfl) (g_rv hX.x rfl) ⟨rfl, rfl⟩ (c_X6_copyOfNow hX) ?_
            intro _ n w h9 _
            obtain ⟨rfl, rfl, hX, hQ, hF_⟩ := h9
            replace hF := Fr.tr hF (hF_.mono (by omega) (by omega))
            refine st_astore (q := 53) (L' := [_, _, _, _, _, _, _, _, _]) dX6_kind_51 rfl (Nat.le_of_ble_eq_true rfl) rfl ?_
            refine st_aload (q := 55) dX6_kind_53 rfl rfl ?_
            refine g_getA (q := 58) dX6_kind_55 rfl fl_X6_139 hQ rfl ?_
            refine st_iload_n (q := 59) dX6_kind_58 rfl rfl rfl ?_
            refine st_iload (q := 61) dX6_kind_59 rfl rfl ?_
            refine g_iast (q := 62) dX6_kind_61 rfl gkX5 hQ (i := 7) rfl (by exact ev_ix_nI (j := j) (by omega) (by decide)) (fun w hQ hF_ => ?_)
            replace hX := hX.setTrial hQ hF_
            replace hF := Fr.tr hF (hF_.mono (by omega) (by omega))
            refine st_aload (q := 64) dX6_kind_62 rfl rfl ?_
            refine st_iload_n (q := 65) dX6_kind_64 rfl rfl rfl ?_
            refine sm_S2 (q := 68) (M' := mX6_sorrowBehind) dX6_kind_65 rfl ok_X6_sorrowBehind mk_X6_sorrowBehind ml_X6_234 ⟨Nat.le_of_ble_eq_true rfl, Nat.le_of_ble_eq_true rfl⟩ rfl (Nat.le_of_ble_eq_true rfl) ⟨rfl, rfl⟩ (c_X6_sorrowBehind hQ (hK.tp (by decide) (by decide) (by decide) (by decide)) (m := m) (by omega)) ?_
            intro _ n w h9 _
            obtain ⟨rfl, rfl, hQ, hF_⟩ := h9
            replace hX := hX.setTrial hQ hF_
            replace hF := Fr.tr hF (hF_.mono (by omega) (by omega))
            refine st_istore (q := 70) (L' := [_, _, _, _, _, _, _, _, _]) dX6_kind_68 rfl (Nat.le_of_ble_eq_true rfl) rfl ?_
            refine st_iload (q := 72) dX6_kind_70 rfl rfl ?_
            refine st_iload (q := 74) dX6_kind_72 rfl rfl ?_
            refine st_icmp_ge (q := 77) (tgt := 85) dX6_kind_74 rfl rfl (fun c_74 => ?_) (fun c_74 => ?_)
            · refine st_iinc (q := 88) (L' := [_, _, _, _, _, _, _, _, _]) dX6_kind_85 rfl rfl (nI_succ _).symm (Nat.le_of_ble_eq_true rfl) rfl ?_
              refine st_goto (q := 41) dX6_kind_88 rfl ?_
              first
                | (have K := ih (i + 1) (by omega) w (some (.ref 11)) (some (.int (dysT (tup Tn 7 j (nI i)) dd nh nt m 17 0))) hX hF; rw [mnF, mn1, if_pos rfl, if_pos (Int32.not_le.mp c_74)] at K; exact K)
                | (have K := ih (i + 1) (by omega) w (some (.ref 11)) (some (.int (dysT (tup Tn 7 j (nI i)) dd nh nt m 17 0))) hX hF; rw [mnF, mn1, if_pos rfl, if_neg (Int32.not_lt.mpr c_74)] at K; exact K)
            · refine st_iload (q := 79) dX6_kind_77 rfl rfl ?_
              refine st_istore (q := 81) (L' := [_, _, _, _, _, _, _, _, _]) dX6_kind_79 rfl (Nat.le_of_ble_eq_true rfl) rfl ?_
              refine st_iload (q := 83) dX6_kind_81 rfl rfl ?_
              refine st_istore (q := 85) (L' := [_, _, _, _, _, _, _, _, _]) dX6_kind_83 rfl (Nat.le_of_ble_eq_true rfl) rfl ?_
              refine st_iinc (q := 88) (L' := [_, _, _, _, _, _, _, _, _]) dX6_kind_85 rfl rfl (nI_succ _).symm (Nat.le_of_ble_eq_true rfl) rfl ?_
              refine st_goto (q := 41) dX6_kind_88 rfl ?_
              first
                | (have K := ih (i + 1) (by omega) w (some (.ref 11)) (some (.int (dysT (tup Tn 7 j (nI i)) dd nh nt m 17 0))) hX hF; rw [mnF, mn1, if_pos rfl, if_pos (Int32.not_le.mp c_74)] at K; exact K)
                | (have K := ih (i + 1) (by omega) w (some (.ref 11)) (some (.int (dysT (tup Tn 7 j (nI i)) dd nh nt m 17 0))) hX hF; rw [mnF, mn1, if_pos rfl, if_neg (Int32.not_lt.mpr c_74)] at K; exact K)
        exact lp 4 0 (by omega) w _ _ hX hF
      · refine st_iconst (q := 28) dX6_kind_27 rfl ic_m1 ?_
        refine st_ireturn dX6_kind_28 rfl ?_
        first
          | exact ⟨by rw [kindS, if_neg (by rw [← hK.2.2.1, zI_0.mp c_8]; decide)], rfl, hX, hF⟩
          | exact ⟨by rw [kindS, if_pos (by rw [← hK.2.2.1]; exact zI_1.mp c_8), if_neg (by rw [zI_0.mp c_15]; decide)], rfl, hX, hF⟩
          | exact ⟨by rw [kindS, if_pos (by rw [← hK.2.2.1]; exact zI_1.mp c_8), if_pos (zI_1.mp c_15), if_neg (by rw [zI_0.mp c_24]; decide)], rfl, hX, hF⟩
set_option maxRecDepth 100000 in
set_option maxHeartbeats 4000000 in
theorem c_X6_save {E : ev_E} {X Tn : gT} {Ti : Nat → gT} {Tp Sg : gT} {Sh : Nat → gT} {n : Nat} {w : ev_W} {w0 : ev_W} (hF : Fr 0 70 w0 w) (hX : XI X Tn Ti Tp Sg Sh n w) {nh nt dd : Nat} (hK : TK Tn nh nt dd) {x y : Int32} : Ct E mX6_save [.ref 0, .int x, .int y] n w (ev_xr (saveS Tn nh nt dd x y) n w0 (XI X Tn Ti Tp Sg Sh n)) := by
  refine Ct.of 5 (by decide) (Nat.le_of_ble_eq_true rfl) rfl ?_
  have hd9 := hK.2.2.2.2.2.2
  refine st_iload_n (q := 1) dX6_save_0 rfl rfl rfl ?_
  refine sp_S1 (q := 4) (M' := mX6_isAhead) dX6_save_1 rfl ok_X6_isAhead mk_X6_isAhead ml_X6_193 ⟨Nat.le_of_ble_eq_true rfl, Nat.le_of_ble_eq_true rfl⟩ rfl (Nat.le_of_ble_eq_true rfl) ⟨rfl, rfl⟩ (c_X6_isAhead) ?_
  refine st_if_eq (q := 7) (tgt := 16) dX6_save_4 rfl rfl (fun c_4 => ?_) (fun c_4 => ?_)
  · refine st_iconst (q := 17) dX6_save_16 rfl ic_m1 ?_
    refine st_ireturn dX6_save_17 rfl ?_
    first
      | exact ⟨by rw [saveS, if_neg (by rw [zI_0.mp c_4]; decide)], rfl, hX, hF⟩
      | exact ⟨by rw [saveS, if_pos (zI_1.mp c_4), if_neg (by rw [zI_0.mp c_13]; decide)], rfl, hX, hF⟩
  · refine st_iload_n (q := 8) dX6_save_7 rfl rfl rfl ?_
    refine st_iconst (q := 9) dX6_save_8 rfl ic_0 ?_
    refine st_iconst (q := 10) dX6_save_9 rfl ic_1 ?_
    refine sp_S3 (q := 13) (M' := mX6_within) dX6_save_10 rfl ok_X6_within mk_X6_within ml_X6_51 ⟨Nat.le_of_ble_eq_true rfl, Nat.le_of_ble_eq_true rfl⟩ rfl (Nat.le_of_ble_eq_true rfl) ⟨rfl, rfl⟩ (c_X6_within) ?_
    refine st_if_ne (q := 16) (tgt := 18) dX6_save_13 rfl rfl (fun c_13 => ?_) (fun c_13 => ?_)
    · obtain ⟨m, hm, rfl⟩ := inI_k (k := 60) (zI_1.mp c_4) (by decide)
      have h60 : inI (nI m) 0 60 = true := zI_1.mp c_4
      have hmc : (nI m).toNatClampNeg = m := nI_clamp (by omega)
      refine st_aload_n (q := 19) dX6_save_18 rfl rfl rfl ?_
      refine sm_V0 (q := 22) (M' := mX6_copyOfNow) dX6_save_19 rfl ok_X6_copyOfNow mk_X6_copyOfNow ml_X6_196 ⟨Nat.le_of_ble_eq_true rfl, Nat.le_of_ble_eq_true rfl⟩ rfl (Nat.le_of_ble_eq_true rfl) (g_rv hX.x rfl) ⟨rfl, rfl⟩ (c_X6_copyOfNow hX) ?_
      intro _ n w h9 _
      obtain ⟨rfl, rfl, hX, hQ, hF_⟩ := h9
      replace hF := Fr.tr hF (hF_.mono (by omega) (by omega))
      refine st_iload_n (q := 23) dX6_save_22 rfl rfl rfl ?_
      refine sm_S2 (q := 26) (M' := mX6_sorrowBehind) dX6_save_23 rfl ok_X6_sorrowBehind mk_X6_sorrowBehind ml_X6_234 ⟨Nat.le_of_ble_eq_true rfl, Nat.le_of_ble_eq_true rfl⟩ rfl (Nat.le_of_ble_eq_true rfl) ⟨rfl, rfl⟩ (c_X6_sorrowBehind hQ (hK) (m := m) (by omega)) ?_
      intro _ n w h9 _
      obtain ⟨rfl, rfl, hQ, hF_⟩ := h9
      replace hX := hX.setTrial hQ hF_
      replace hF := Fr.tr hF (hF_.mono (by omega) (by omega))
      refine st_istore_n (q := 27) (L' := [_, _, _, _, _, _, _, _]) dX6_save_26 rfl rfl (Nat.le_of_ble_eq_true rfl) rfl ?_
      refine st_bipush (q := 29) dX6_save_27 rfl bp_m4 ?_
      refine st_istore (q := 31) (L' := [_, _, _, _, _, _, _, _]) dX6_save_29 rfl (Nat.le_of_ble_eq_true rfl) rfl ?_
      refine st_iconst (q := 32) dX6_save_31 rfl ic_0 ?_
      refine st_istore (q := 34) (L' := [_, _, _, _, _, _, _, _]) dX6_save_32 rfl (Nat.le_of_ble_eq_true rfl) rfl ?_
      have lp : ∀ (k i : Nat), i + k = nt → ∀ (w1 : ev_W) (la lb : Option Value), XI X Tn Ti Tp Sg Sh n w1 → Fr 0 70 w0 w1 → Ev E mX6_save 34 [some (.ref 0), some (.int (nI m)), some (.int y), some (.int (saveF Tn nh nt dd m i).1), some (.int (saveF Tn nh nt dd m i).2), some (.int (nI i)), la, lb] [] n w1 (0, 0) (ev_xr (saveS Tn nh nt dd (nI m) y) n w0 (XI X Tn Ti Tp Sg Sh n)) := by
        clear hX hF hQ
        intro k
        induction k with
        | zero =>
          intro i hi w la lb hX hF
          obtain rfl : i = nt := hi
          refine st_iload (q := 36) dX6_save_34 rfl rfl ?_
          refine st_aload_n (q := 37) dX6_save_36 rfl rfl rfl ?_
          refine g_getO (q := 40) dX6_save_37 rfl fl_X6_10.g hX.x rfl ?_
          refine g_get (q := 43) dX6_save_40 rfl fl_X6_98.g hX.now rfl ?_
          refine st_icmp_ge (q := 46) (tgt := 89) dX6_save_43 rfl rfl (fun c_43 => ?_) (fun c_43 => False.elim (c_43 (by rw [hK.2.2.1]; exact Int32.le_refl _)))
          refine st_aload_n (q := 90) dX6_save_89 rfl rfl rfl ?_
          refine st_iload (q := 92) dX6_save_90 rfl rfl ?_
          refine st_iload_n (q := 93) dX6_save_92 rfl rfl rfl ?_
          refine st_iload_n (q := 94) dX6_save_93 rfl rfl rfl ?_
          refine sp_V3 (q := 97) (M' := mX6_bestOrSorrow) dX6_save_94 rfl ok_X6_bestOrSorrow mk_X6_bestOrSorrow ml_X6_249 ⟨Nat.le_of_ble_eq_true rfl, Nat.le_of_ble_eq_true rfl⟩ rfl (Nat.le_of_ble_eq_true rfl) (g_rv hX.x rfl) ⟨rfl, rfl⟩ (c_X6_bestOrSorrow hX) ?_
          refine st_ireturn dX6_save_97 rfl ?_
          exact ⟨by rw [saveS, if_pos h60, if_pos (zI_1.mp c_13), hmc], rfl, hX, hF⟩
        | succ k ih =>
          intro i hi w la lb hX hF
          refine st_iload (q := 36) dX6_save_34 rfl rfl ?_
          refine st_aload_n (q := 37) dX6_save_36 rfl rfl rfl ?_
          refine g_getO (q := 40) dX6_save_37 rfl fl_X6_10.g hX.x rfl ?_
          refine g_get (q := 43) dX6_save_40 rfl fl_X6_98.g hX.now rfl ?_
          refine st_icmp_ge (q := 46) (tgt := 89) dX6_save_43 rfl rfl (fun c_43 => False.elim (absurd (by rw [← hK.2.2.1]; exact c_43) (nI_ge (a := i) (b := nt) (by omega) (by have := hK.2.2.2.1; omega)))) (fun c_43 => ?_)
          refine st_aload_n (q := 47) dX6_save_46 rfl rfl rfl ?_
          refine sm_V0 (q := 50) (M' := mX6_copyOfNow) dX6_save_47 rfl ok_X6_copyOfNow mk_X6_copyOfNow ml_X6_196 ⟨Nat.le_of_ble_eq_true rfl, Nat.le_of_ble_eq_true rfl⟩ rfl (Nat.le_of_ble_eq_true rfl) (g_rv hX.x rfl) ⟨rfl, rfl⟩ (c_X6_copyOfNow hX) ?_
          intro _ n w h9 _
          obtain ⟨rfl, rfl, hX, hQ, hF_⟩ := h9
          replace hF := Fr.tr hF (hF_.mono (by omega) (by omega))
          refine st_astore (q := 52) (L' := [_, _, _, _, _, _, _, _]) dX6_save_50 rfl (Nat.le_of_ble_eq_true rfl) rfl ?_
          refine st_aload (q := 54) dX6_save_52 rfl rfl ?_
          refine st_iload (q := 56) dX6_save_54 rfl rfl ?_
          refine sm_V1 (q := 59) (M' := mX5_putIn) dX6_save_56 rfl ok_X5_putIn mk_X5_putIn ml_X6_183 ⟨Nat.le_of_ble_eq_true rfl, Nat.le_of_ble_eq_true rfl⟩ rfl (Nat.le_of_ble_eq_true rfl) (g_rv hQ rfl) ⟨rfl, rfl⟩ (c_X5_putIn hQ hK.2.2.1 hK.2.2.2.1 hK.2.2.2.2.1) ?_
          intro _ n w h9 _
          obtain ⟨rfl, rfl, hQ, hF_⟩ := h9
          replace hX := hX.setTrial hQ hF_
          replace hF := Fr.tr hF (hF_.mono (by omega) (by omega))
          refine st_if_lt (q := 62) (tgt := 83) dX6_save_59 rfl rfl (fun c_59 => ?_) (fun c_59 => ?_)
          · refine st_iinc (q := 86) (L' := [_, _, _, _, _, _, _, _]) dX6_save_83 rfl rfl (nI_succ _).symm (Nat.le_of_ble_eq_true rfl) rfl ?_
            refine st_goto (q := 34) dX6_save_86 rfl ?_
            first
              | (have K := ih (i + 1) (by omega) w (some (.ref 11)) (some (.int (dysT (puT Tn (nI i) nt).2 dd nh nt m 17 0))) hX hF; rw [show saveF Tn nh nt dd m (i + 1) = _ from mnF_y (decide_eq_true (Int32.not_lt.mp c_59)) c_73] at K; exact K)
              | (have K := ih (i + 1) (by omega) w (some (.ref 11)) (some (.int (dysT (puT Tn (nI i) nt).2 dd nh nt m 17 0))) hX hF; rw [show saveF Tn nh nt dd m (i + 1) = _ from mnF_k (decide_eq_true (Int32.not_lt.mp c_59)) c_73] at K; exact K)
              | (have K := ih (i + 1) (by omega) w (some (.ref 11)) lb hX hF; rw [show saveF Tn nh nt dd m (i + 1) = _ from mnF_n (by rw [decide_eq_true_eq]; exact Int32.not_le.mpr c_59)] at K; exact K)
          · refine st_aload (q := 64) dX6_save_62 rfl rfl ?_
            refine st_iload_n (q := 65) dX6_save_64 rfl rfl rfl ?_
            refine sm_S2 (q := 68) (M' := mX6_sorrowBehind) dX6_save_65 rfl ok_X6_sorrowBehind mk_X6_sorrowBehind ml_X6_234 ⟨Nat.le_of_ble_eq_true rfl, Nat.le_of_ble_eq_true rfl⟩ rfl (Nat.le_of_ble_eq_true rfl) ⟨rfl, rfl⟩ (c_X6_sorrowBehind hQ (hK.pu) (m := m) (by omega)) ?_
            intro _ n w h9 _
            obtain ⟨rfl, rfl, hQ, hF_⟩ := h9
            replace hX := hX.setTrial hQ hF_
            replace hF := Fr.tr hF (hF_.mono (by omega) (by omega))
            refine st_istore (q := 70) (L' := [_, _, _, _, _, _, _, _]) dX6_save_68 rfl (Nat.le_of_ble_eq_true rfl) rfl ?_
            refine st_iload (q := 72) dX6_save_70 rfl rfl ?_
            refine st_iload_n (q := 73) dX6_save_72 rfl rfl rfl ?_
            refine st_icmp_ge (q := 76) (tgt := 83) dX6_save_73 rfl rfl (fun c_73 => ?_) (fun c_73 => ?_)
            · refine st_iinc (q := 86) (L' := [_, _, _, _, _, _, _, _]) dX6_save_83 rfl rfl (nI_succ _).symm (Nat.le_of_ble_eq_true rfl) rfl ?_
              refine st_goto (q := 34) dX6_save_86 rfl ?_
              first
                | (have K := ih (i + 1) (by omega) w (some (.ref 11)) (some (.int (dysT (puT Tn (nI i) nt).2 dd nh nt m 17 0))) hX hF; rw [show saveF Tn nh nt dd m (i + 1) = _ from mnF_y (decide_eq_true (Int32.not_lt.mp c_59)) c_73] at K; exact K)
                | (have K := ih (i + 1) (by omega) w (some (.ref 11)) (some (.int (dysT (puT Tn (nI i) nt).2 dd nh nt m 17 0))) hX hF; rw [show saveF Tn nh nt dd m (i + 1) = _ from mnF_k (decide_eq_true (Int32.not_lt.mp c_59)) c_73] at K; exact K)
                | (have K := ih (i + 1) (by omega) w (some (.ref 11)) lb hX hF; rw [show saveF Tn nh nt dd m (i + 1) = _ from mnF_n (by rw [decide_eq_true_eq]; exact Int32.not_le.mpr c_59)] at K; exact K)
            · refine st_iload (q := 78) dX6_save_76 rfl rfl ?_
              refine st_istore_n (q := 79) (L' := [_, _, _, _, _, _, _, _]) dX6_save_78 rfl rfl (Nat.le_of_ble_eq_true rfl) rfl ?_
              refine st_iload (q := 81) dX6_save_79 rfl rfl ?_
              refine st_istore (q := 83) (L' := [_, _, _, _, _, _, _, _]) dX6_save_81 rfl (Nat.le_of_ble_eq_true rfl) rfl ?_
              refine st_iinc (q := 86) (L' := [_, _, _, _, _, _, _, _]) dX6_save_83 rfl rfl (nI_succ _).symm (Nat.le_of_ble_eq_true rfl) rfl ?_
              refine st_goto (q := 34) dX6_save_86 rfl ?_
              first
                | (have K := ih (i + 1) (by omega) w (some (.ref 11)) (some (.int (dysT (puT Tn (nI i) nt).2 dd nh nt m 17 0))) hX hF; rw [show saveF Tn nh nt dd m (i + 1) = _ from mnF_y (decide_eq_true (Int32.not_lt.mp c_59)) c_73] at K; exact K)
                | (have K := ih (i + 1) (by omega) w (some (.ref 11)) (some (.int (dysT (puT Tn (nI i) nt).2 dd nh nt m 17 0))) hX hF; rw [show saveF Tn nh nt dd m (i + 1) = _ from mnF_k (decide_eq_true (Int32.not_lt.mp c_59)) c_73] at K; exact K)
                | (have K := ih (i + 1) (by omega) w (some (.ref 11)) lb hX hF; rw [show saveF Tn nh nt dd m (i + 1) = _ from mnF_n (by rw [decide_eq_true_eq]; exact Int32.not_le.mpr c_59)] at K; exact K)
      exact lp nt 0 (by omega) w _ _ hX hF
    · refine st_iconst (q := 17) dX6_save_16 rfl ic_m1 ?_
      refine st_ireturn dX6_save_17 rfl ?_
      first
        | exact ⟨by rw [saveS, if_neg (by rw [zI_0.mp c_4]; decide)], rfl, hX, hF⟩
        | exact ⟨by rw [saveS, if_pos (zI_1.mp c_4), if_neg (by rw [zI_0.mp c_13]; decide)], rfl, hX, hF⟩
