abbrev ev_xv (v : Value) (n : Nat) (w : ev_W) (G : ev_W → Prop) : Option Value → Nat → ev_W → Prop := fun a m u => a = some v ∧ m = n ∧ G u ∧ Fr 0 70 w u
def pwL (v : Int32) : Nat → Int64
  | 0 => 1
  | k + 1 => pwL v k * v.toInt64
def cntN (s : Nat) : Nat → Nat
  | 0 => 0
  | k + 1 => cntN s k + (s >>> k) % 2
theorem cntN_le (s : Nat) : ∀ k, cntN s k ≤ k
  | 0 => Nat.le_refl _
  | k + 1 => by have := cntN_le s k; have := Nat.mod_lt (s >>> k) (show 0 < 2 by decide); rw [cntN]; omega
theorem bc_tab : ∀ m, m < 9 → ∀ s, s < 2 ^ m → bcI (nI s) = nI (cntN s m) := by decide +kernel
theorem sh1_n : ∀ m, m < 9 → (1 : Int32) <<< (nI m &&& 31) = nI (2 ^ m) := by decide +kernel
theorem p2_le : ∀ m, m < 9 → 2 ^ m ≤ 256 := by decide
theorem nI_sb {a b : Nat} (h : b ≤ a) : nI a - nI b = nI (a - b) := by
  have e : nI a = nI (a - b) + nI b := by rw [nI_add, show a - b + b = a from by omega]
  rw [e, Int32.add_sub_cancel]
def wgL (s : Nat) (v : Int32) (m : Nat) : Int64 := pwL v (cntN s m) * pwL (10 - v) (m - cntN s m)
def stT (T : gT) (dd nh nt : Nat) (s : Int32) : Nat → gT
  | 0 => T
  | i + 1 => pdT (stT T dd nh nt s i) (stT T dd nh nt s i 13 ((dd + i) % 7) + ((s >>> (nI i &&& 31)) &&& 1) * 2) (stT T dd nh nt s i 14 0) nh nt
theorem stT_n {T : gT} {dd nh nt g : Nat} {s : Int32} (h0 : g ≠ 2) (h1 : g ≠ 11) (h2 : g ≠ 12) (h3 : g ≠ 17) (h4 : g ≠ 4) (h5 : g ≠ 5) (h6 : g ≠ 15) (h7 : g ≠ 16) : ∀ i, stT T dd nh nt s i g = T g
  | 0 => rfl
  | i + 1 => by rw [stT, pdT_n h0 h1 h2 h3 h4 h5 h6 h7, stT_n h0 h1 h2 h3 h4 h5 h6 h7 i]
theorem stT_16 {T : gT} {dd nh nt : Nat} {s : Int32} (e : T 16 0 = nI dd) : ∀ i, stT T dd nh nt s i 16 0 = nI (dd + i)
  | 0 => e
  | i + 1 => by rw [stT, pdT_16, stT_16 e i, ← nI_succ]; rfl
def cdF (a b : Int64) : Nat → Int64
  | 0 => a
  | k + 1 => if b = 0 then a else cdF b (a - a / b * b) k
def frL (a b : Int64) (y : Int32) : Int64 := if cdF a b 100 = 0 then 0 else (if y = 0 then a else b) / cdF a b 100
def luF (T : gT) (dd nh nt m : Nat) (v x : Int32) : Nat → Int64
  | 0 => 0
  | s + 1 => if 0 < wgL s v m then (if btI (stT T dd nh nt (nI s) m 12 0) x = true then luF T dd nh nt m v x s else luF T dd nh nt m v x s + wgL s v m) else luF T dd nh nt m v x s
def meF (T : gT) (dd nh nt m : Nat) (v : Int32) : Nat → Int64
  | 0 => 0
  | s + 1 => if 0 < wgL s v m then meF T dd nh nt m v s + wgL s v m * (stT T dd nh nt (nI s) m 17 0 - T 17 0).toInt64 else meF T dd nh nt m v s
def luckS (T : gT) (nh nt dd : Nat) (v x y z : Int32) : Int64 := if inI v 0 10 = true then (if inI x 0 (nI nt - 1) = true then (if inI y 0 8 = true then (if inI z 0 1 = true then frL (luF T dd nh nt y.toNatClampNeg v x (2 ^ y.toNatClampNeg)) (pwL 10 y.toNatClampNeg) z else -1) else -1) else -1) else -1
def meanS (T : gT) (nh nt dd : Nat) (v y z : Int32) : Int64 := if inI v 0 10 = true then (if inI y 0 8 = true then (if inI z 0 1 = true then frL (meF T dd nh nt y.toNatClampNeg v (2 ^ y.toNatClampNeg)) (pwL 10 y.toNatClampNeg) z else -1) else -1) else -1
set_option maxRecDepth 100000 in
set_option maxHeartbeats 4000000 in
theorem c_X6_power {E : ev_E} {n : Nat} {w : ev_W} {v : Int32} {m : Nat} (hm : m ≤ 1000) : Ct E mX6_power [.int v, .int (nI m)] n w (ev_is (some (.long (pwL v m))) n w) := by
  refine Ct.of 3 (by decide) (Nat.le_of_ble_eq_true rfl) rfl ?_
  have lp : ∀ (k i : Nat), i + k = m → Ev E mX6_power 5 [some (.int v), some (.int (nI m)), some (.long (pwL v i)), none, some (.int (nI i))] [] n w (0, 0) (ev_is (some (.long (pwL v m))) n w) := by
    intro k
    induction k with
    | zero =>
      intro i hi
      obtain rfl : i = m := hi
      refine st_iload (q := 7) dX6_power_5 rfl rfl ?_
      refine st_iload_n (q := 8) dX6_power_7 rfl rfl rfl ?_
      refine st_icmp_ge (q := 11) (tgt := 22) dX6_power_8 rfl rfl (fun c_8 => ?_) (fun c_8 => False.elim (c_8 (Int32.le_refl _)))
      refine st_lload_n (q := 23) dX6_power_22 rfl rfl rfl ?_
      refine st_lreturn dX6_power_23 rfl ?_
      exact ⟨rfl, rfl, rfl⟩
    | succ k ih =>
      intro i hi
      refine st_iload (q := 7) dX6_power_5 rfl rfl ?_
      refine st_iload_n (q := 8) dX6_power_7 rfl rfl rfl ?_
      refine st_icmp_ge (q := 11) (tgt := 22) dX6_power_8 rfl rfl (fun c_8 => False.elim (absurd c_8 (nI_ge (a := i) (b := m) (by omega) (by omega)))) (fun c_8 => ?_)
      refine st_lload_n (q := 12) dX6_power_11 rfl rfl rfl ?_
      refine st_iload_n (q := 13) dX6_power_12 rfl rfl rfl ?_
      refine st_i2l (q := 14) dX6_power_13 rfl ?_
      refine st_lmul (q := 15) dX6_power_14 rfl ?_
      refine st_lstore_n (q := 16) (L' := [_, _, _, _, _]) dX6_power_15 rfl rfl (Nat.le_of_ble_eq_true rfl) rfl ?_
      refine st_iinc (q := 19) (L' := [_, _, _, _, _]) dX6_power_16 rfl rfl (nI_succ _).symm (Nat.le_of_ble_eq_true rfl) rfl ?_
      refine st_goto (q := 5) dX6_power_19 rfl ?_
      exact ih (i + 1) (by omega)
  refine st_lconst (q := 1) dX6_power_0 rfl lc_1 ?_
  refine st_lstore_n (q := 2) (L' := [_, _, _, _, _]) dX6_power_1 rfl rfl (Nat.le_of_ble_eq_true rfl) rfl ?_
  refine st_iconst (q := 3) dX6_power_2 rfl ic_0 ?_
  refine st_istore (q := 5) (L' := [_, _, _, _, _]) dX6_power_3 rfl (Nat.le_of_ble_eq_true rfl) rfl ?_
  exact lp m 0 (by omega)
set_option maxRecDepth 100000 in
set_option maxHeartbeats 4000000 in
theorem c_X6_weightOf {E : ev_E} {n : Nat} {w : ev_W} {s m : Nat} {v : Int32} (hm : m ≤ 8) (hs : s < 2 ^ m) : Ct E mX6_weightOf [.int (nI s), .int v, .int (nI m)] n w (ev_is (some (.long (wgL s v m))) n w) := by
  refine Ct.of 1 (by decide) (Nat.le_of_ble_eq_true rfl) rfl ?_
  have hc := cntN_le s m
  refine st_iload_n (q := 1) dX6_weightOf_0 rfl rfl rfl ?_
  refine sp_S1 (q := 4) (M' := mJ6_bitCount_0f7a4) dX6_weightOf_1 rfl ok_J6_bitCount_0f7a4 mk_J6_bitCount_0f7a4 ml_X6_291 ⟨Nat.le_of_ble_eq_true rfl, Nat.le_of_ble_eq_true rfl⟩ rfl (Nat.le_of_ble_eq_true rfl) ⟨rfl, rfl⟩ (c_J6_bitCount_0f7a4) ?_
  rw [bc_tab m (by omega) s hs]
  refine st_istore_n (q := 5) (L' := [_, _, _, _]) dX6_weightOf_4 rfl rfl (Nat.le_of_ble_eq_true rfl) rfl ?_
  refine st_iload_n (q := 6) dX6_weightOf_5 rfl rfl rfl ?_
  refine st_iload_n (q := 7) dX6_weightOf_6 rfl rfl rfl ?_
  refine sp_S2 (q := 10) (M' := mX6_power) dX6_weightOf_7 rfl ok_X6_power mk_X6_power ml_X6_263 ⟨Nat.le_of_ble_eq_true rfl, Nat.le_of_ble_eq_true rfl⟩ rfl (Nat.le_of_ble_eq_true rfl) ⟨rfl, rfl⟩ (c_X6_power (m := cntN s m) (by omega)) ?_
  refine st_bipush (q := 12) dX6_weightOf_10 rfl bp_10 ?_
  refine st_iload_n (q := 13) dX6_weightOf_12 rfl rfl rfl ?_
  refine st_isub (q := 14) dX6_weightOf_13 rfl ?_
  refine st_iload_n (q := 15) dX6_weightOf_14 rfl rfl rfl ?_
  refine st_iload_n (q := 16) dX6_weightOf_15 rfl rfl rfl ?_
  refine st_isub (q := 17) dX6_weightOf_16 rfl ?_
  rw [nI_sb hc]
  refine sp_S2 (q := 20) (M' := mX6_power) dX6_weightOf_17 rfl ok_X6_power mk_X6_power ml_X6_263 ⟨Nat.le_of_ble_eq_true rfl, Nat.le_of_ble_eq_true rfl⟩ rfl (Nat.le_of_ble_eq_true rfl) ⟨rfl, rfl⟩ (c_X6_power (m := m - cntN s m) (by omega)) ?_
  refine st_lmul (q := 21) dX6_weightOf_20 rfl ?_
  refine st_lreturn dX6_weightOf_21 rfl ?_
  exact ⟨rfl, rfl, rfl⟩
set_option maxRecDepth 100000 in
set_option maxHeartbeats 4000000 in
theorem c_X6_behindStorms {E : ev_E} {X Tn : gT} {Ti : Nat → gT} {Tp Sg : gT} {Sh : Nat → gT} {n : Nat} {w : ev_W} {w0 : ev_W} (hF : Fr 11 21 w0 w) (hX : XI X Tn Ti Tp Sg Sh n w) {nh nt dd : Nat} (hK : TK Tn nh nt dd) {s : Int32} {m : Nat} (hm : m ≤ 1000) : Ct E mX6_behindStorms [.ref 0, .int s, .int (nI m)] n w (fun a m1 u => a = some (.ref 11) ∧ m1 = n ∧ XI X Tn Ti Tp Sg Sh n u ∧ TR (stT Tn dd nh nt s m) 11 n u ∧ Fr 11 21 w0 u) := by
  refine Ct.of 3 (by decide) (Nat.le_of_ble_eq_true rfl) rfl ?_
  have hd9 := hK.2.2.2.2.2.2
  refine st_aload_n (q := 1) dX6_behindStorms_0 rfl rfl rfl ?_
  refine sm_V0 (q := 4) (M' := mX6_copyOfNow) dX6_behindStorms_1 rfl ok_X6_copyOfNow mk_X6_copyOfNow ml_X6_196 ⟨Nat.le_of_ble_eq_true rfl, Nat.le_of_ble_eq_true rfl⟩ rfl (Nat.le_of_ble_eq_true rfl) (g_rv hX.x rfl) ⟨rfl, rfl⟩ (c_X6_copyOfNow hX) ?_
  intro _ n w h9 _
  obtain ⟨rfl, rfl, hX, hQ, hF_⟩ := h9
  replace hF := Fr.tr hF hF_
  refine st_astore_n (q := 5) (L' := [_, _, _, _, _, _]) dX6_behindStorms_4 rfl rfl (Nat.le_of_ble_eq_true rfl) rfl ?_
  refine st_iconst (q := 6) dX6_behindStorms_5 rfl ic_0 ?_
  refine st_istore (q := 8) (L' := [_, _, _, _, _, _]) dX6_behindStorms_6 rfl (Nat.le_of_ble_eq_true rfl) rfl ?_
  have lp : ∀ (k i : Nat), i + k = m → ∀ (w1 : ev_W) (la : Option Value), XI X Tn Ti Tp Sg Sh n w1 → TR (stT Tn dd nh nt s i) 11 n w1 → Fr 11 21 w0 w1 → Ev E mX6_behindStorms 8 [some (.ref 0), some (.int s), some (.int (nI m)), some (.ref 11), some (.int (nI i)), la] [] n w1 (0, 0) (fun a m1 u => a = some (.ref 11) ∧ m1 = n ∧ XI X Tn Ti Tp Sg Sh n u ∧ TR (stT Tn dd nh nt s m) 11 n u ∧ Fr 11 21 w0 u) := by
    clear hX hF hQ
    intro k
    induction k with
    | zero =>
      intro i hi w la hX hQ hF
      obtain rfl : i = m := hi
      refine st_iload (q := 10) dX6_behindStorms_8 rfl rfl ?_
      refine st_iload_n (q := 11) dX6_behindStorms_10 rfl rfl rfl ?_
      refine st_icmp_ge (q := 14) (tgt := 45) dX6_behindStorms_11 rfl rfl (fun c_11 => ?_) (fun c_11 => False.elim (c_11 (Int32.le_refl _)))
      refine st_aload_n (q := 46) dX6_behindStorms_45 rfl rfl rfl ?_
      refine st_areturn dX6_behindStorms_46 rfl (by first | exact Or.inl ⟨_, rfl⟩ | exact Or.inr ⟨_, rfl⟩) ?_
      exact ⟨rfl, rfl, hX, hQ, hF⟩
    | succ k ih =>
      intro i hi w la hX hQ hF
      refine st_iload (q := 10) dX6_behindStorms_8 rfl rfl ?_
      refine st_iload_n (q := 11) dX6_behindStorms_10 rfl rfl rfl ?_
      refine st_icmp_ge (q := 14) (tgt := 45) dX6_behindStorms_11 rfl rfl (fun c_11 => False.elim (absurd c_11 (nI_ge (a := i) (b := m) (by omega) (by omega)))) (fun c_11 => ?_)
      refine st_iload_n (q := 15) dX6_behindStorms_14 rfl rfl rfl ?_
      refine st_iload (q := 17) dX6_behindStorms_15 rfl rfl ?_
      refine st_ishr (q := 18) dX6_behindStorms_17 rfl ?_
      refine st_iconst (q := 19) dX6_behindStorms_18 rfl ic_1 ?_
      refine st_iand (q := 20) dX6_behindStorms_19 rfl ?_
      refine st_iconst (q := 21) dX6_behindStorms_20 rfl ic_2 ?_
      refine st_imul (q := 22) dX6_behindStorms_21 rfl ?_
      refine st_istore (q := 24) (L' := [_, _, _, _, _, _]) dX6_behindStorms_22 rfl (Nat.le_of_ble_eq_true rfl) rfl ?_
      refine st_aload_n (q := 25) dX6_behindStorms_24 rfl rfl rfl ?_
      refine st_aload_n (q := 26) dX6_behindStorms_25 rfl rfl rfl ?_
      refine sp_V0 (q := 29) (M' := mX5_riseToday) dX6_behindStorms_26 rfl ok_X5_riseToday mk_X5_riseToday ml_X6_336 ⟨Nat.le_of_ble_eq_true rfl, Nat.le_of_ble_eq_true rfl⟩ rfl (Nat.le_of_ble_eq_true rfl) (g_rv hQ rfl) ⟨rfl, rfl⟩ (c_X5_riseToday hQ (stT_16 hK.2.2.2.2.2.1 i) (by omega)) ?_
      refine st_iload (q := 31) dX6_behindStorms_29 rfl rfl ?_
      refine st_iadd (q := 32) dX6_behindStorms_31 rfl ?_
      refine st_aload_n (q := 33) dX6_behindStorms_32 rfl rfl rfl ?_
      refine g_get (q := 36) dX6_behindStorms_33 rfl fl_X6_110.g hQ rfl ?_
      refine sm_V2 (q := 39) (M' := mX5_passDay) dX6_behindStorms_36 rfl ok_X5_passDay mk_X5_passDay ml_X6_300 ⟨Nat.le_of_ble_eq_true rfl, Nat.le_of_ble_eq_true rfl⟩ rfl (Nat.le_of_ble_eq_true rfl) (g_rv hQ rfl) ⟨rfl, rfl⟩ (c_X5_passDay hQ (by rw [stT_n (by decide) (by decide) (by decide) (by decide) (by decide) (by decide) (by decide) (by decide)]; exact hK.2.2.1) hK.2.2.2.1 (by rw [stT_n (by decide) (by decide) (by decide) (by decide) (by decide) (by decide) (by decide) (by decide)]; exact hK.1) hK.2.1) ?_
      intro _ n w h9 _
      obtain ⟨rfl, rfl, hQ, hF_⟩ := h9
      replace hX := hX.setTrial hQ hF_
      replace hF := Fr.tr hF hF_
      refine st_iinc (q := 42) (L' := [_, _, _, _, _, _]) dX6_behindStorms_39 rfl rfl (nI_succ _).symm (Nat.le_of_ble_eq_true rfl) rfl ?_
      refine st_goto (q := 8) dX6_behindStorms_42 rfl ?_
      exact ih (i + 1) (by omega) w _ hX hQ hF
  exact lp m 0 (by omega) w _ hX hQ hF
set_option maxRecDepth 100000 in
set_option maxHeartbeats 4000000 in
theorem c_X6_commonDivisor {E : ev_E} {n : Nat} {w : ev_W} {a b : Int64} : Ct E mX6_commonDivisor [.long a, .long b] n w (ev_is (some (.long (cdF a b 100))) n w) := by
  refine Ct.of 7 (by decide) (Nat.le_of_ble_eq_true rfl) rfl ?_
  have lp : ∀ (k i : Nat), i + k = 100 → ∀ (x y : Int64) (la : Option Value), cdF x y k = cdF a b 100 → Ev E mX6_commonDivisor 9 [some (.long a), none, some (.long b), none, some (.long x), none, some (.long y), none, some (.int (nI i)), la, none] [] n w (0, 0) (ev_is (some (.long (cdF a b 100))) n w) := by
    intro k
    induction k with
    | zero =>
      intro i hi x y la he
      obtain rfl : i = 100 := hi
      refine st_iload (q := 11) dX6_commonDivisor_9 rfl rfl ?_
      refine st_bipush (q := 13) dX6_commonDivisor_11 rfl bp_100 ?_
      refine st_icmp_ge (q := 16) (tgt := 44) dX6_commonDivisor_13 rfl rfl (fun c_13 => ?_) (fun c_13 => False.elim (c_13 (by decide)))
      refine st_lload (q := 46) dX6_commonDivisor_44 rfl rfl ?_
      refine st_lreturn dX6_commonDivisor_46 rfl ?_
      exact ⟨by rw [← he]; rfl, rfl, rfl⟩
    | succ k ih =>
      intro i hi x y la he
      refine st_iload (q := 11) dX6_commonDivisor_9 rfl rfl ?_
      refine st_bipush (q := 13) dX6_commonDivisor_11 rfl bp_100 ?_
      refine st_icmp_ge (q := 16) (tgt := 44) dX6_commonDivisor_13 rfl rfl (fun c_13 => False.elim (absurd c_13 (nI_ge (a := i) (b := 100) (by omega) (by omega)))) (fun c_13 => ?_)
      refine st_lload (q := 18) dX6_commonDivisor_16 rfl rfl ?_
      refine st_lconst (q := 19) dX6_commonDivisor_18 rfl lc_0 ?_
      refine st_lcmp (q := 20) dX6_commonDivisor_19 rfl ?_
      refine st_if_eq (q := 23) (tgt := 44) dX6_commonDivisor_20 rfl rfl (fun c_20 => ?_) (fun c_20 => ?_)
      · refine st_lload (q := 46) dX6_commonDivisor_44 rfl rfl ?_
        refine st_lreturn dX6_commonDivisor_46 rfl ?_
        exact ⟨by rw [← he, cdF, if_pos ((lg_cmp_eq _ _).mp c_20)], rfl, rfl⟩
      · refine st_lload (q := 25) dX6_commonDivisor_23 rfl rfl ?_
        refine st_lload (q := 27) dX6_commonDivisor_25 rfl rfl ?_
        refine st_lrem (q := 28) dX6_commonDivisor_27 rfl (fun z => c_20 ((lg_cmp_eq _ _).mpr z)) ?_
        refine st_lstore (q := 30) (L' := [_, _, _, _, _, _, _, _, _, _, _]) dX6_commonDivisor_28 rfl (Nat.le_of_ble_eq_true rfl) rfl ?_
        refine st_lload (q := 32) dX6_commonDivisor_30 rfl rfl ?_
        refine st_lstore (q := 34) (L' := [_, _, _, _, _, _, _, _, _, _, _]) dX6_commonDivisor_32 rfl (Nat.le_of_ble_eq_true rfl) rfl ?_
        refine st_lload (q := 36) dX6_commonDivisor_34 rfl rfl ?_
        refine st_lstore (q := 38) (L' := [_, _, _, _, _, _, _, _, _, _, _]) dX6_commonDivisor_36 rfl (Nat.le_of_ble_eq_true rfl) rfl ?_
        refine st_iinc (q := 41) (L' := [_, _, _, _, _, _, _, _, _, _, _]) dX6_commonDivisor_38 rfl rfl (nI_succ _).symm (Nat.le_of_ble_eq_true rfl) rfl ?_
        refine st_goto (q := 9) dX6_commonDivisor_41 rfl ?_
        exact ih (i + 1) (by omega) _ _ _ (by rw [← he, cdF, if_neg (fun z => c_20 ((lg_cmp_eq _ _).mpr z))])
  refine st_lload_n (q := 1) dX6_commonDivisor_0 rfl rfl rfl ?_
  refine st_lstore (q := 3) (L' := [_, _, _, _, _, _, _, _, _, _, _]) dX6_commonDivisor_1 rfl (Nat.le_of_ble_eq_true rfl) rfl ?_
  refine st_lload_n (q := 4) dX6_commonDivisor_3 rfl rfl rfl ?_
  refine st_lstore (q := 6) (L' := [_, _, _, _, _, _, _, _, _, _, _]) dX6_commonDivisor_4 rfl (Nat.le_of_ble_eq_true rfl) rfl ?_
  refine st_iconst (q := 7) dX6_commonDivisor_6 rfl ic_0 ?_
  refine st_istore (q := 9) (L' := [_, _, _, _, _, _, _, _, _, _, _]) dX6_commonDivisor_7 rfl (Nat.le_of_ble_eq_true rfl) rfl ?_
  exact lp 100 0 (by omega) _ _ _ rfl
set_option maxRecDepth 100000 in
set_option maxHeartbeats 4000000 in
theorem c_X6_fractionPart {E : ev_E} {n : Nat} {w : ev_W} {a b : Int64} {y : Int32} : Ct E mX6_fractionPart [.long a, .long b, .int y] n w (ev_is (some (.long (frL a b y))) n w) := by
  refine Ct.of 2 (by decide) (Nat.le_of_ble_eq_true rfl) rfl ?_
  refine st_lload_n (q := 1) dX6_fractionPart_0 rfl rfl rfl ?_
  refine st_lload_n (q := 2) dX6_fractionPart_1 rfl rfl rfl ?_
  refine sp_S2 (q := 5) (M' := mX6_commonDivisor) dX6_fractionPart_2 rfl ok_X6_commonDivisor mk_X6_commonDivisor ml_X6_339 ⟨Nat.le_of_ble_eq_true rfl, Nat.le_of_ble_eq_true rfl⟩ rfl (Nat.le_of_ble_eq_true rfl) ⟨rfl, rfl⟩ (c_X6_commonDivisor) ?_
  refine st_lstore (q := 7) (L' := [_, _, _, _, _, _, _]) dX6_fractionPart_5 rfl (Nat.le_of_ble_eq_true rfl) rfl ?_
  refine st_lload (q := 9) dX6_fractionPart_7 rfl rfl ?_
  refine st_lconst (q := 10) dX6_fractionPart_9 rfl lc_0 ?_
  refine st_lcmp (q := 11) dX6_fractionPart_10 rfl ?_
  refine st_if_ne (q := 14) (tgt := 16) dX6_fractionPart_11 rfl rfl (fun c_11 => ?_) (fun c_11 => ?_)
  · refine st_iload (q := 18) dX6_fractionPart_16 rfl rfl ?_
    refine st_if_ne (q := 21) (tgt := 25) dX6_fractionPart_18 rfl rfl (fun c_18 => ?_) (fun c_18 => ?_)
    · refine st_lload_n (q := 26) dX6_fractionPart_25 rfl rfl rfl ?_
      refine st_lload (q := 28) dX6_fractionPart_26 rfl rfl ?_
      refine st_ldiv (q := 29) dX6_fractionPart_28 rfl (fun z => c_11 ((lg_cmp_eq _ _).mpr z)) ?_
      refine st_lreturn dX6_fractionPart_29 rfl ?_
      first
        | exact ⟨by rw [frL, if_pos ((lg_cmp_eq _ _).mp c_11)], rfl, rfl⟩
        | exact ⟨by rw [frL, if_neg (fun z => c_11 ((lg_cmp_eq _ _).mpr z)), if_pos c_18], rfl, rfl⟩
        | exact ⟨by rw [frL, if_neg (fun z => c_11 ((lg_cmp_eq _ _).mpr z)), if_neg c_18], rfl, rfl⟩
    · refine st_lload_n (q := 22) dX6_fractionPart_21 rfl rfl rfl ?_
      refine st_goto (q := 26) dX6_fractionPart_22 rfl ?_
      refine st_lload (q := 28) dX6_fractionPart_26 rfl rfl ?_
      refine st_ldiv (q := 29) dX6_fractionPart_28 rfl (fun z => c_11 ((lg_cmp_eq _ _).mpr z)) ?_
      refine st_lreturn dX6_fractionPart_29 rfl ?_
      first
        | exact ⟨by rw [frL, if_pos ((lg_cmp_eq _ _).mp c_11)], rfl, rfl⟩
        | exact ⟨by rw [frL, if_neg (fun z => c_11 ((lg_cmp_eq _ _).mpr z)), if_pos c_18], rfl, rfl⟩
        | exact ⟨by rw [frL, if_neg (fun z => c_11 ((lg_cmp_eq _ _).mpr z)), if_neg c_18], rfl, rfl⟩
  · refine st_lconst (q := 15) dX6_fractionPart_14 rfl lc_0 ?_
    refine st_lreturn dX6_fractionPart_15 rfl ?_
    first
      | exact ⟨by rw [frL, if_pos ((lg_cmp_eq _ _).mp c_11)], rfl, rfl⟩
      | exact ⟨by rw [frL, if_neg (fun z => c_11 ((lg_cmp_eq _ _).mpr z)), if_pos c_18], rfl, rfl⟩
      | exact ⟨by rw [frL, if_neg (fun z => c_11 ((lg_cmp_eq _ _).mpr z)), if_neg c_18], rfl, rfl⟩
set_option maxRecDepth 100000 in
set_option maxHeartbeats 4000000 in
theorem c_X6_luck {E : ev_E} {X Tn : gT} {Ti : Nat → gT} {Tp Sg : gT} {Sh : Nat → gT} {n : Nat} {w : ev_W} {w0 : ev_W} (hF : Fr 0 70 w0 w) (hX : XI X Tn Ti Tp Sg Sh n w) {nh nt dd : Nat} (hK : TK Tn nh nt dd) {v x y z : Int32} : Ct E mX6_luck [.ref 0, .int v, .int x, .int y, .int z] n w (ev_xv (.long (luckS Tn nh nt dd v x y z)) n w0 (XI X Tn Ti Tp Sg Sh n)) := by
  refine Ct.of 5 (by decide) (Nat.le_of_ble_eq_true rfl) rfl ?_
  have hd9 := hK.2.2.2.2.2.2
  refine st_iload_n (q := 1) dX6_luck_0 rfl rfl rfl ?_
  refine st_iconst (q := 2) dX6_luck_1 rfl ic_0 ?_
  refine st_bipush (q := 4) dX6_luck_2 rfl bp_10 ?_
  refine sp_S3 (q := 7) (M' := mX6_within) dX6_luck_4 rfl ok_X6_within mk_X6_within ml_X6_51 ⟨Nat.le_of_ble_eq_true rfl, Nat.le_of_ble_eq_true rfl⟩ rfl (Nat.le_of_ble_eq_true rfl) ⟨rfl, rfl⟩ (c_X6_within) ?_
  refine st_if_eq (q := 10) (tgt := 41) dX6_luck_7 rfl rfl (fun c_7 => ?_) (fun c_7 => ?_)
  · refine st_ldc2 (q := 44) dX6_luck_41 rfl cn_X6_253 ?_
    refine st_lreturn dX6_luck_44 rfl ?_
    first
      | exact ⟨by rw [luckS, if_neg (by rw [zI_0.mp c_7]; decide)], rfl, hX, hF⟩
      | exact ⟨by rw [luckS, if_pos (zI_1.mp c_7), if_neg (by rw [← hK.2.2.1, zI_0.mp c_18]; decide)], rfl, hX, hF⟩
      | exact ⟨by rw [luckS, if_pos (zI_1.mp c_7), if_pos (by rw [← hK.2.2.1]; exact zI_1.mp c_18), if_neg (by rw [zI_0.mp c_28]; decide)], rfl, hX, hF⟩
      | exact ⟨by rw [luckS, if_pos (zI_1.mp c_7), if_pos (by rw [← hK.2.2.1]; exact zI_1.mp c_18), if_pos (zI_1.mp c_28), if_neg (by rw [zI_0.mp c_38]; decide)], rfl, hX, hF⟩
  · refine st_aload_n (q := 11) dX6_luck_10 rfl rfl rfl ?_
    refine g_getO (q := 14) dX6_luck_11 rfl fl_X6_10.g hX.x rfl ?_
    refine st_iload_n (q := 15) dX6_luck_14 rfl rfl rfl ?_
    refine sp_V1 (q := 18) (M' := mX5_isThing) dX6_luck_15 rfl ok_X5_isThing mk_X5_isThing ml_X6_136 ⟨Nat.le_of_ble_eq_true rfl, Nat.le_of_ble_eq_true rfl⟩ rfl (Nat.le_of_ble_eq_true rfl) (g_rv hX.now rfl) ⟨rfl, rfl⟩ (c_X5_isThing hX.now) ?_
    refine st_if_eq (q := 21) (tgt := 41) dX6_luck_18 rfl rfl (fun c_18 => ?_) (fun c_18 => ?_)
    · refine st_ldc2 (q := 44) dX6_luck_41 rfl cn_X6_253 ?_
      refine st_lreturn dX6_luck_44 rfl ?_
      first
        | exact ⟨by rw [luckS, if_neg (by rw [zI_0.mp c_7]; decide)], rfl, hX, hF⟩
        | exact ⟨by rw [luckS, if_pos (zI_1.mp c_7), if_neg (by rw [← hK.2.2.1, zI_0.mp c_18]; decide)], rfl, hX, hF⟩
        | exact ⟨by rw [luckS, if_pos (zI_1.mp c_7), if_pos (by rw [← hK.2.2.1]; exact zI_1.mp c_18), if_neg (by rw [zI_0.mp c_28]; decide)], rfl, hX, hF⟩
        | exact ⟨by rw [luckS, if_pos (zI_1.mp c_7), if_pos (by rw [← hK.2.2.1]; exact zI_1.mp c_18), if_pos (zI_1.mp c_28), if_neg (by rw [zI_0.mp c_38]; decide)], rfl, hX, hF⟩
    · refine st_iload_n (q := 22) dX6_luck_21 rfl rfl rfl ?_
      refine st_iconst (q := 23) dX6_luck_22 rfl ic_0 ?_
      refine st_bipush (q := 25) dX6_luck_23 rfl bp_8 ?_
      refine sp_S3 (q := 28) (M' := mX6_within) dX6_luck_25 rfl ok_X6_within mk_X6_within ml_X6_51 ⟨Nat.le_of_ble_eq_true rfl, Nat.le_of_ble_eq_true rfl⟩ rfl (Nat.le_of_ble_eq_true rfl) ⟨rfl, rfl⟩ (c_X6_within) ?_
      refine st_if_eq (q := 31) (tgt := 41) dX6_luck_28 rfl rfl (fun c_28 => ?_) (fun c_28 => ?_)
      · refine st_ldc2 (q := 44) dX6_luck_41 rfl cn_X6_253 ?_
        refine st_lreturn dX6_luck_44 rfl ?_
        first
          | exact ⟨by rw [luckS, if_neg (by rw [zI_0.mp c_7]; decide)], rfl, hX, hF⟩
          | exact ⟨by rw [luckS, if_pos (zI_1.mp c_7), if_neg (by rw [← hK.2.2.1, zI_0.mp c_18]; decide)], rfl, hX, hF⟩
          | exact ⟨by rw [luckS, if_pos (zI_1.mp c_7), if_pos (by rw [← hK.2.2.1]; exact zI_1.mp c_18), if_neg (by rw [zI_0.mp c_28]; decide)], rfl, hX, hF⟩
          | exact ⟨by rw [luckS, if_pos (zI_1.mp c_7), if_pos (by rw [← hK.2.2.1]; exact zI_1.mp c_18), if_pos (zI_1.mp c_28), if_neg (by rw [zI_0.mp c_38]; decide)], rfl, hX, hF⟩
      · refine st_iload (q := 33) dX6_luck_31 rfl rfl ?_
        refine st_iconst (q := 34) dX6_luck_33 rfl ic_0 ?_
        refine st_iconst (q := 35) dX6_luck_34 rfl ic_1 ?_
        refine sp_S3 (q := 38) (M' := mX6_within) dX6_luck_35 rfl ok_X6_within mk_X6_within ml_X6_51 ⟨Nat.le_of_ble_eq_true rfl, Nat.le_of_ble_eq_true rfl⟩ rfl (Nat.le_of_ble_eq_true rfl) ⟨rfl, rfl⟩ (c_X6_within) ?_
        refine st_if_ne (q := 41) (tgt := 45) dX6_luck_38 rfl rfl (fun c_38 => ?_) (fun c_38 => ?_)
        · obtain ⟨m, hm, rfl⟩ := inI_k (k := 8) (zI_1.mp c_28) (by decide)
          have h8 : inI (nI m) 0 8 = true := zI_1.mp c_28
          have hmc : (nI m).toNatClampNeg = m := nI_clamp (by omega)
          have hp := p2_le m (by omega)
          have h1 : inI x 0 (nI nt - 1) = true := by rw [← hK.2.2.1]; exact zI_1.mp c_18
          refine st_lconst (q := 46) dX6_luck_45 rfl lc_0 ?_
          refine st_lstore (q := 48) (L' := [_, _, _, _, _, _, _, _, _, _]) dX6_luck_46 rfl (Nat.le_of_ble_eq_true rfl) rfl ?_
          refine st_iconst (q := 49) dX6_luck_48 rfl ic_0 ?_
          refine st_istore (q := 51) (L' := [_, _, _, _, _, _, _, _, _, _]) dX6_luck_49 rfl (Nat.le_of_ble_eq_true rfl) rfl ?_
          have lp : ∀ (k i : Nat), i + k = 2 ^ m → ∀ (w1 : ev_W) (la : Option Value), XI X Tn Ti Tp Sg Sh n w1 → Fr 0 70 w0 w1 → Ev E mX6_luck 51 [some (.ref 0), some (.int v), some (.int x), some (.int (nI m)), some (.int z), some (.long (luF Tn dd nh nt m v x i)), none, some (.int (nI i)), la, none] [] n w1 (0, 0) (ev_xv (.long (luckS Tn nh nt dd v x (nI m) z)) n w0 (XI X Tn Ti Tp Sg Sh n)) := by
            clear hX hF
            intro k
            induction k with
            | zero =>
              intro i hi w la hX hF
              obtain rfl : i = 2 ^ m := hi
              refine st_iload (q := 53) dX6_luck_51 rfl rfl ?_
              refine st_iconst (q := 54) dX6_luck_53 rfl ic_1 ?_
              refine st_iload_n (q := 55) dX6_luck_54 rfl rfl rfl ?_
              refine st_ishl (q := 56) dX6_luck_55 rfl ?_
              refine st_icmp_ge (q := 59) (tgt := 102) dX6_luck_56 rfl rfl (fun c_56 => ?_) (fun c_56 => False.elim (c_56 (by rw [sh1_n m (by omega)]; exact Int32.le_refl _)))
              refine st_lload (q := 104) dX6_luck_102 rfl rfl ?_
              refine st_bipush (q := 106) dX6_luck_104 rfl bp_10 ?_
              refine st_iload_n (q := 107) dX6_luck_106 rfl rfl rfl ?_
              refine sp_S2 (q := 110) (M' := mX6_power) dX6_luck_107 rfl ok_X6_power mk_X6_power ml_X6_263 ⟨Nat.le_of_ble_eq_true rfl, Nat.le_of_ble_eq_true rfl⟩ rfl (Nat.le_of_ble_eq_true rfl) ⟨rfl, rfl⟩ (c_X6_power (m := m) (by omega)) ?_
              refine st_iload (q := 112) dX6_luck_110 rfl rfl ?_
              refine sp_S3 (q := 115) (M' := mX6_fractionPart) dX6_luck_112 rfl ok_X6_fractionPart mk_X6_fractionPart ml_X6_267 ⟨Nat.le_of_ble_eq_true rfl, Nat.le_of_ble_eq_true rfl⟩ rfl (Nat.le_of_ble_eq_true rfl) ⟨rfl, rfl⟩ (c_X6_fractionPart) ?_
              refine st_lreturn dX6_luck_115 rfl ?_
              exact ⟨by rw [luckS, if_pos (zI_1.mp c_7), if_pos h1, if_pos h8, if_pos (zI_1.mp c_38), hmc], rfl, hX, hF⟩
            | succ k ih =>
              intro i hi w la hX hF
              refine st_iload (q := 53) dX6_luck_51 rfl rfl ?_
              refine st_iconst (q := 54) dX6_luck_53 rfl ic_1 ?_
              refine st_iload_n (q := 55) dX6_luck_54 rfl rfl rfl ?_
              refine st_ishl (q := 56) dX6_luck_55 rfl ?_
              refine st_icmp_ge (q := 59) (tgt := 102) dX6_luck_56 rfl rfl (fun c_56 => False.elim (absurd (by rw [← sh1_n m (by omega)]; exact c_56) (nI_ge (a := i) (b := 2 ^ m) (by omega) (by omega)))) (fun c_56 => ?_)
              refine st_iload (q := 61) dX6_luck_59 rfl rfl ?_
              refine st_iload_n (q := 62) dX6_luck_61 rfl rfl rfl ?_
              refine st_iload_n (q := 63) dX6_luck_62 rfl rfl rfl ?_
              refine sp_S3 (q := 66) (M' := mX6_weightOf) dX6_luck_63 rfl ok_X6_weightOf mk_X6_weightOf ml_X6_255 ⟨Nat.le_of_ble_eq_true rfl, Nat.le_of_ble_eq_true rfl⟩ rfl (Nat.le_of_ble_eq_true rfl) ⟨rfl, rfl⟩ (c_X6_weightOf (s := i) (m := m) (by omega) (by omega)) ?_
              refine st_lstore (q := 68) (L' := [_, _, _, _, _, _, _, _, _, _]) dX6_luck_66 rfl (Nat.le_of_ble_eq_true rfl) rfl ?_
              refine st_lload (q := 70) dX6_luck_68 rfl rfl ?_
              refine st_lconst (q := 71) dX6_luck_70 rfl lc_0 ?_
              refine st_lcmp (q := 72) dX6_luck_71 rfl ?_
              refine st_if_le (q := 75) (tgt := 96) dX6_luck_72 rfl rfl (fun c_72 => ?_) (fun c_72 => ?_)
              · refine st_iinc (q := 99) (L' := [_, _, _, _, _, _, _, _, _, _]) dX6_luck_96 rfl rfl (nI_succ _).symm (Nat.le_of_ble_eq_true rfl) rfl ?_
                refine st_goto (q := 51) dX6_luck_99 rfl ?_
                first
                  | (have K := ih (i + 1) (by omega) w (some (.long (wgL i v m))) hX hF; rw [luF, if_neg (Int64.not_lt.mpr ((lg_cmp_le _ _).mp c_72))] at K; exact K)
                  | (have K := ih (i + 1) (by omega) w (some (.long (wgL i v m))) hX hF; rw [luF, if_pos (Int64.not_le.mp (fun z => c_72 ((lg_cmp_le _ _).mpr z))), if_pos (zI_1.mp c_86)] at K; exact K)
                  | (have K := ih (i + 1) (by omega) w (some (.long (wgL i v m))) hX hF; rw [luF, if_pos (Int64.not_le.mp (fun z => c_72 ((lg_cmp_le _ _).mpr z))), if_neg (by rw [zI_0.mp c_86]; decide)] at K; exact K)
              · refine st_aload_n (q := 76) dX6_luck_75 rfl rfl rfl ?_
                refine st_iload (q := 78) dX6_luck_76 rfl rfl ?_
                refine st_iload_n (q := 79) dX6_luck_78 rfl rfl rfl ?_
                refine sm_V2 (q := 82) (M' := mX6_behindStorms) dX6_luck_79 rfl ok_X6_behindStorms mk_X6_behindStorms ml_X6_259 ⟨Nat.le_of_ble_eq_true rfl, Nat.le_of_ble_eq_true rfl⟩ rfl (Nat.le_of_ble_eq_true rfl) (g_rv hX.x rfl) ⟨rfl, rfl⟩ (c_X6_behindStorms Fr.rf hX hK (m := m) (by omega)) ?_
                intro _ n w h9 _
                obtain ⟨rfl, rfl, hX, hQ, hF_⟩ := h9
                replace hF := Fr.tr hF (hF_.mono (by omega) (by omega))
                refine st_iload_n (q := 83) dX6_luck_82 rfl rfl rfl ?_
                refine sp_V1 (q := 86) (M' := mX5_isGone) dX6_luck_83 rfl ok_X5_isGone mk_X5_isGone ml_X6_212 ⟨Nat.le_of_ble_eq_true rfl, Nat.le_of_ble_eq_true rfl⟩ rfl (Nat.le_of_ble_eq_true rfl) (g_rv hQ rfl) ⟨rfl, rfl⟩ (c_X5_isGone hQ) ?_
                refine st_if_ne (q := 89) (tgt := 96) dX6_luck_86 rfl rfl (fun c_86 => ?_) (fun c_86 => ?_)
                · refine st_iinc (q := 99) (L' := [_, _, _, _, _, _, _, _, _, _]) dX6_luck_96 rfl rfl (nI_succ _).symm (Nat.le_of_ble_eq_true rfl) rfl ?_
                  refine st_goto (q := 51) dX6_luck_99 rfl ?_
                  first
                    | (have K := ih (i + 1) (by omega) w (some (.long (wgL i v m))) hX hF; rw [luF, if_neg (Int64.not_lt.mpr ((lg_cmp_le _ _).mp c_72))] at K; exact K)
                    | (have K := ih (i + 1) (by omega) w (some (.long (wgL i v m))) hX hF; rw [luF, if_pos (Int64.not_le.mp (fun z => c_72 ((lg_cmp_le _ _).mpr z))), if_pos (zI_1.mp c_86)] at K; exact K)
                    | (have K := ih (i + 1) (by omega) w (some (.long (wgL i v m))) hX hF; rw [luF, if_pos (Int64.not_le.mp (fun z => c_72 ((lg_cmp_le _ _).mpr z))), if_neg (by rw [zI_0.mp c_86]; decide)] at K; exact K)
                · refine st_lload (q := 91) dX6_luck_89 rfl rfl ?_
                  refine st_lload (q := 93) dX6_luck_91 rfl rfl ?_
                  refine st_ladd (q := 94) dX6_luck_93 rfl ?_
                  refine st_lstore (q := 96) (L' := [_, _, _, _, _, _, _, _, _, _]) dX6_luck_94 rfl (Nat.le_of_ble_eq_true rfl) rfl ?_
                  refine st_iinc (q := 99) (L' := [_, _, _, _, _, _, _, _, _, _]) dX6_luck_96 rfl rfl (nI_succ _).symm (Nat.le_of_ble_eq_true rfl) rfl ?_
                  refine st_goto (q := 51) dX6_luck_99 rfl ?_
                  first
                    | (have K := ih (i + 1) (by omega) w (some (.long (wgL i v m))) hX hF; rw [luF, if_neg (Int64.not_lt.mpr ((lg_cmp_le _ _).mp c_72))] at K; exact K)
                    | (have K := ih (i + 1) (by omega) w (some (.long (wgL i v m))) hX hF; rw [luF, if_pos (Int64.not_le.mp (fun z => c_72 ((lg_cmp_le _ _).mpr z))), if_pos (zI_1.mp c_86)] at K; exact K)
                    | (have K := ih (i + 1) (by omega) w (some (.long (wgL i v m))) hX hF; rw [luF, if_pos (Int64.not_le.mp (fun z => c_72 ((lg_cmp_le _ _).mpr z))), if_neg (by rw [zI_0.mp c_86]; decide)] at K; exact K)
          exact lp (2 ^ m) 0 (by omega) w _ hX hF
        · refine st_ldc2 (q := 44) dX6_luck_41 rfl cn_X6_253 ?_
          refine st_lreturn dX6_luck_44 rfl ?_
          first
            | exact ⟨by rw [luckS, if_neg (by rw [zI_0.mp c_7]; decide)], rfl, hX, hF⟩
            | exact ⟨by rw [luckS, if_pos (zI_1.mp c_7), if_neg (by rw [← hK.2.2.1, zI_0.mp c_18]; decide)], rfl, hX, hF⟩
            | exact ⟨by rw [luckS, if_pos (zI_1.mp c_7), if_pos (by rw [← hK.2.2.1]; exact zI_1.mp c_18), if_neg (by rw [zI_0.mp c_28]; decide)], rfl, hX, hF⟩
            | exact ⟨by rw [luckS, if_pos (zI_1.mp c_7), if_pos (by rw [← hK.2.2.1]; exact zI_1.mp c_18), if_pos (zI_1.mp c_28), if_neg (by rw [zI_0.mp c_38]; decide)], rfl, hX, hF⟩
set_option maxRecDepth 100000 in
set_option maxHeartbeats 4000000 in
theorem c_X6_mean {E : ev_E} {X Tn : gT} {Ti : Nat → gT} {Tp Sg : gT} {Sh : Nat → gT} {n : Nat} {w : ev_W} {w0 : ev_W} (hF : Fr 0 70 w0 w) (hX : XI X Tn Ti Tp Sg Sh n w) {nh nt dd : Nat} (hK : TK Tn nh nt dd) {v y z : Int32} : Ct E mX6_mean [.ref 0, .int v, .int y, .int z] n w (ev_xv (.long (meanS Tn nh nt dd v y z)) n w0 (XI X Tn Ti Tp Sg Sh n)) := by
  refine Ct.of 5 (by decide) (Nat.le_of_ble_eq_true rfl) rfl ?_
  have hd9 := hK.2.2.2.2.2.2
  refine st_iload_n (q := 1) dX6_mean_0 rfl rfl rfl ?_
  refine st_iconst (q := 2) dX6_mean_1 rfl ic_0 ?_
  refine st_bipush (q := 4) dX6_mean_2 rfl bp_10 ?_
  refine sp_S3 (q := 7) (M' := mX6_within) dX6_mean_4 rfl ok_X6_within mk_X6_within ml_X6_51 ⟨Nat.le_of_ble_eq_true rfl, Nat.le_of_ble_eq_true rfl⟩ rfl (Nat.le_of_ble_eq_true rfl) ⟨rfl, rfl⟩ (c_X6_within) ?_
  refine st_if_eq (q := 10) (tgt := 29) dX6_mean_7 rfl rfl (fun c_7 => ?_) (fun c_7 => ?_)
  · refine st_ldc2 (q := 32) dX6_mean_29 rfl cn_X6_253 ?_
    refine st_lreturn dX6_mean_32 rfl ?_
    first
      | exact ⟨by rw [meanS, if_neg (by rw [zI_0.mp c_7]; decide)], rfl, hX, hF⟩
      | exact ⟨by rw [meanS, if_pos (zI_1.mp c_7), if_neg (by rw [zI_0.mp c_17]; decide)], rfl, hX, hF⟩
      | exact ⟨by rw [meanS, if_pos (zI_1.mp c_7), if_pos (zI_1.mp c_17), if_neg (by rw [zI_0.mp c_26]; decide)], rfl, hX, hF⟩
  · refine st_iload_n (q := 11) dX6_mean_10 rfl rfl rfl ?_
    refine st_iconst (q := 12) dX6_mean_11 rfl ic_0 ?_
    refine st_bipush (q := 14) dX6_mean_12 rfl bp_8 ?_
    refine sp_S3 (q := 17) (M' := mX6_within) dX6_mean_14 rfl ok_X6_within mk_X6_within ml_X6_51 ⟨Nat.le_of_ble_eq_true rfl, Nat.le_of_ble_eq_true rfl⟩ rfl (Nat.le_of_ble_eq_true rfl) ⟨rfl, rfl⟩ (c_X6_within) ?_
    refine st_if_eq (q := 20) (tgt := 29) dX6_mean_17 rfl rfl (fun c_17 => ?_) (fun c_17 => ?_)
    · refine st_ldc2 (q := 32) dX6_mean_29 rfl cn_X6_253 ?_
      refine st_lreturn dX6_mean_32 rfl ?_
      first
        | exact ⟨by rw [meanS, if_neg (by rw [zI_0.mp c_7]; decide)], rfl, hX, hF⟩
        | exact ⟨by rw [meanS, if_pos (zI_1.mp c_7), if_neg (by rw [zI_0.mp c_17]; decide)], rfl, hX, hF⟩
        | exact ⟨by rw [meanS, if_pos (zI_1.mp c_7), if_pos (zI_1.mp c_17), if_neg (by rw [zI_0.mp c_26]; decide)], rfl, hX, hF⟩
    · refine st_iload_n (q := 21) dX6_mean_20 rfl rfl rfl ?_
      refine st_iconst (q := 22) dX6_mean_21 rfl ic_0 ?_
      refine st_iconst (q := 23) dX6_mean_22 rfl ic_1 ?_
      refine sp_S3 (q := 26) (M' := mX6_within) dX6_mean_23 rfl ok_X6_within mk_X6_within ml_X6_51 ⟨Nat.le_of_ble_eq_true rfl, Nat.le_of_ble_eq_true rfl⟩ rfl (Nat.le_of_ble_eq_true rfl) ⟨rfl, rfl⟩ (c_X6_within) ?_
      refine st_if_ne (q := 29) (tgt := 33) dX6_mean_26 rfl rfl (fun c_26 => ?_) (fun c_26 => ?_)
      · obtain ⟨m, hm, rfl⟩ := inI_k (k := 8) (zI_1.mp c_17) (by decide)
        have h8 : inI (nI m) 0 8 = true := zI_1.mp c_17
        have hmc : (nI m).toNatClampNeg = m := nI_clamp (by omega)
        have hp := p2_le m (by omega)
        refine st_lconst (q := 34) dX6_mean_33 rfl lc_0 ?_
        refine st_lstore (q := 36) (L' := [_, _, _, _, _, _, _, _, _]) dX6_mean_34 rfl (Nat.le_of_ble_eq_true rfl) rfl ?_
        refine st_iconst (q := 37) dX6_mean_36 rfl ic_0 ?_
        refine st_istore (q := 39) (L' := [_, _, _, _, _, _, _, _, _]) dX6_mean_37 rfl (Nat.le_of_ble_eq_true rfl) rfl ?_
        have lp : ∀ (k i : Nat), i + k = 2 ^ m → ∀ (w1 : ev_W) (la : Option Value), XI X Tn Ti Tp Sg Sh n w1 → Fr 0 70 w0 w1 → Ev E mX6_mean 39 [some (.ref 0), some (.int v), some (.int (nI m)), some (.int z), some (.long (meF Tn dd nh nt m v i)), none, some (.int (nI i)), la, none] [] n w1 (0, 0) (ev_xv (.long (meanS Tn nh nt dd v (nI m) z)) n w0 (XI X Tn Ti Tp Sg Sh n)) := by
          clear hX hF
          intro k
          induction k with
          | zero =>
            intro i hi w la hX hF
            obtain rfl : i = 2 ^ m := hi
            refine st_iload (q := 41) dX6_mean_39 rfl rfl ?_
            refine st_iconst (q := 42) dX6_mean_41 rfl ic_1 ?_
            refine st_iload_n (q := 43) dX6_mean_42 rfl rfl rfl ?_
            refine st_ishl (q := 44) dX6_mean_43 rfl ?_
            refine st_icmp_ge (q := 47) (tgt := 96) dX6_mean_44 rfl rfl (fun c_44 => ?_) (fun c_44 => False.elim (c_44 (by rw [sh1_n m (by omega)]; exact Int32.le_refl _)))
            refine st_lload (q := 98) dX6_mean_96 rfl rfl ?_
            refine st_bipush (q := 100) dX6_mean_98 rfl bp_10 ?_
            refine st_iload_n (q := 101) dX6_mean_100 rfl rfl rfl ?_
            refine sp_S2 (q := 104) (M' := mX6_power) dX6_mean_101 rfl ok_X6_power mk_X6_power ml_X6_263 ⟨Nat.le_of_ble_eq_true rfl, Nat.le_of_ble_eq_true rfl⟩ rfl (Nat.le_of_ble_eq_true rfl) ⟨rfl, rfl⟩ (c_X6_power (m := m) (by omega)) ?_
            refine st_iload_n (q := 105) dX6_mean_104 rfl rfl rfl ?_
            refine sp_S3 (q := 108) (M' := mX6_fractionPart) dX6_mean_105 rfl ok_X6_fractionPart mk_X6_fractionPart ml_X6_267 ⟨Nat.le_of_ble_eq_true rfl, Nat.le_of_ble_eq_true rfl⟩ rfl (Nat.le_of_ble_eq_true rfl) ⟨rfl, rfl⟩ (c_X6_fractionPart) ?_
            refine st_lreturn dX6_mean_108 rfl ?_
            exact ⟨by rw [meanS, if_pos (zI_1.mp c_7), if_pos h8, if_pos (zI_1.mp c_26), hmc], rfl, hX, hF⟩
          | succ k ih =>
            intro i hi w la hX hF
            refine st_iload (q := 41) dX6_mean_39 rfl rfl ?_
            refine st_iconst (q := 42) dX6_mean_41 rfl ic_1 ?_
            refine st_iload_n (q := 43) dX6_mean_42 rfl rfl rfl ?_
            refine st_ishl (q := 44) dX6_mean_43 rfl ?_
            refine st_icmp_ge (q := 47) (tgt := 96) dX6_mean_44 rfl rfl (fun c_44 => False.elim (absurd (by rw [← sh1_n m (by omega)]; exact c_44) (nI_ge (a := i) (b := 2 ^ m) (by omega) (by omega)))) (fun c_44 => ?_)
            refine st_iload (q := 49) dX6_mean_47 rfl rfl ?_
            refine st_iload_n (q := 50) dX6_mean_49 rfl rfl rfl ?_
            refine st_iload_n (q := 51) dX6_mean_50 rfl rfl rfl ?_
            refine sp_S3 (q := 54) (M' := mX6_weightOf) dX6_mean_51 rfl ok_X6_weightOf mk_X6_weightOf ml_X6_255 ⟨Nat.le_of_ble_eq_true rfl, Nat.le_of_ble_eq_true rfl⟩ rfl (Nat.le_of_ble_eq_true rfl) ⟨rfl, rfl⟩ (c_X6_weightOf (s := i) (m := m) (by omega) (by omega)) ?_
            refine st_lstore (q := 56) (L' := [_, _, _, _, _, _, _, _, _]) dX6_mean_54 rfl (Nat.le_of_ble_eq_true rfl) rfl ?_
            refine st_lload (q := 58) dX6_mean_56 rfl rfl ?_
            refine st_lconst (q := 59) dX6_mean_58 rfl lc_0 ?_
            refine st_lcmp (q := 60) dX6_mean_59 rfl ?_
            refine st_if_le (q := 63) (tgt := 90) dX6_mean_60 rfl rfl (fun c_60 => ?_) (fun c_60 => ?_)
            · refine st_iinc (q := 93) (L' := [_, _, _, _, _, _, _, _, _]) dX6_mean_90 rfl rfl (nI_succ _).symm (Nat.le_of_ble_eq_true rfl) rfl ?_
              refine st_goto (q := 39) dX6_mean_93 rfl ?_
              first
                | (have K := ih (i + 1) (by omega) w (some (.long (wgL i v m))) hX hF; rw [meF, if_neg (Int64.not_lt.mpr ((lg_cmp_le _ _).mp c_60))] at K; exact K)
                | (have K := ih (i + 1) (by omega) w (some (.long (wgL i v m))) hX hF; rw [meF, if_pos (Int64.not_le.mp (fun z => c_60 ((lg_cmp_le _ _).mpr z)))] at K; exact K)
            · refine st_lload (q := 65) dX6_mean_63 rfl rfl ?_
              refine st_lload (q := 67) dX6_mean_65 rfl rfl ?_
              refine st_aload_n (q := 68) dX6_mean_67 rfl rfl rfl ?_
              refine st_iload (q := 70) dX6_mean_68 rfl rfl ?_
              refine st_iload_n (q := 71) dX6_mean_70 rfl rfl rfl ?_
              refine sm_V2 (q := 74) (M' := mX6_behindStorms) dX6_mean_71 rfl ok_X6_behindStorms mk_X6_behindStorms ml_X6_259 ⟨Nat.le_of_ble_eq_true rfl, Nat.le_of_ble_eq_true rfl⟩ rfl (Nat.le_of_ble_eq_true rfl) (g_rv hX.x rfl) ⟨rfl, rfl⟩ (c_X6_behindStorms Fr.rf hX hK (m := m) (by omega)) ?_
              intro _ n w h9 _
              obtain ⟨rfl, rfl, hX, hQ, hF_⟩ := h9
              replace hF := Fr.tr hF (hF_.mono (by omega) (by omega))
              refine g_get (q := 77) dX6_mean_74 rfl fl_X6_107.g hQ rfl ?_
              refine st_aload_n (q := 78) dX6_mean_77 rfl rfl rfl ?_
              refine g_getO (q := 81) dX6_mean_78 rfl fl_X6_10.g hX.x rfl ?_
              refine g_get (q := 84) dX6_mean_81 rfl fl_X6_107.g hX.now rfl ?_
              refine st_isub (q := 85) dX6_mean_84 rfl ?_
              refine st_i2l (q := 86) dX6_mean_85 rfl ?_
              refine st_lmul (q := 87) dX6_mean_86 rfl ?_
              refine st_ladd (q := 88) dX6_mean_87 rfl ?_
              refine st_lstore (q := 90) (L' := [_, _, _, _, _, _, _, _, _]) dX6_mean_88 rfl (Nat.le_of_ble_eq_true rfl) rfl ?_
              refine st_iinc (q := 93) (L' := [_, _, _, _, _, _, _, _, _]) dX6_mean_90 rfl rfl (nI_succ _).symm (Nat.le_of_ble_eq_true rfl) rfl ?_
              refine st_goto (q := 39) dX6_mean_93 rfl ?_
              first
                | (have K := ih (i + 1) (by omega) w (some (.long (wgL i v m))) hX hF; rw [meF, if_neg (Int64.not_lt.mpr ((lg_cmp_le _ _).mp c_60))] at K; exact K)
                | (have K := ih (i + 1) (by omega) w (some (.long (wgL i v m))) hX hF; rw [meF, if_pos (Int64.not_le.mp (fun z => c_60 ((lg_cmp_le _ _).mpr z)))] at K; exact K)
        exact lp (2 ^ m) 0 (by omega) w _ hX hF
      · refine st_ldc2 (q := 32) dX6_mean_29 rfl cn_X6_253 ?_
        refine st_lreturn dX6_mean_32 rfl ?_
        first
          | exact ⟨by rw [meanS, if_neg (by rw [zI_0.mp c_7]; decide)], rfl, hX, hF⟩
          | exact ⟨by rw [meanS, if_pos (zI_1.mp c_7), if_neg (by rw [zI_0.mp c_17]; decide)], rfl, hX, hF⟩
          | exact ⟨by rw [meanS, if_pos (zI_1.mp c_7), if_pos (zI_1.mp c_17), if_neg (by rw [zI_0.mp c_26]; decide)], rfl, hX, hF⟩
