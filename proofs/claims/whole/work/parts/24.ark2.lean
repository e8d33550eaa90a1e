theorem TK.tp {T : gT} {nh nt dd i j : Nat} {v : Int32} (h : TK T nh nt dd) (h0 : i ≠ 0) (h1 : i ≠ 6) (h2 : i ≠ 8) (h3 : i ≠ 16) : TK (tup T i j v) nh nt dd := by
  unfold TK
  rw [tup_n (Ne.symm h0), tup_n (Ne.symm h1), tup_n (Ne.symm h2), tup_n (Ne.symm h3)]
  exact h
theorem TK.swp {T : gT} {nh nt dd i j : Nat} (h : TK T nh nt dd) (hi : i < nt) (hj : j < nt) : TK (tup (tup T 8 i (T 8 j)) 8 j (T 8 i)) nh nt dd := by
  refine ⟨h.1, h.2.1, h.2.2.1, h.2.2.2.1, fun k hk => ?_, h.2.2.2.2.2.1, h.2.2.2.2.2.2⟩
  rw [tup_s]
  by_cases e : k = j
  · subst e; rw [pk_us]; exact h.2.2.2.2.1 i hi
  · rw [pk_un e, tup_s]
    by_cases e' : k = i
    · subst e'; rw [pk_us]; exact h.2.2.2.2.1 j hj
    · rw [pk_un e']; exact h.2.2.2.2.1 k hk
theorem TK.pu {T : gT} {nh nt dd : Nat} {x : Int32} (h : TK T nh nt dd) : TK (puT T x nt).2 nh nt dd := by
  unfold puT
  split
  · split
    · split
      · exact h
      · split
        · exact h.tp (by decide) (by decide) (by decide) (by decide)
        · exact h
    · exact h
  · exact h
set_option maxRecDepth 100000 in
set_option maxHeartbeats 4000000 in
theorem c_X6_copyOfNow {E : ev_E} {X Tn : gT} {Ti : Nat → gT} {Tp Sg : gT} {Sh : Nat → gT} {n : Nat} {w : ev_W} (hX : XI X Tn Ti Tp Sg Sh n w) : Ct E mX6_copyOfNow [.ref 0] n w (fun a m u => a = some (.ref 11) ∧ m = n ∧ XI X Tn Ti Tp Sg Sh n u ∧ TR Tn 11 n u ∧ Fr 11 21 w u) := by
  refine Ct.of 0 (by decide) (Nat.le_of_ble_eq_true rfl) rfl ?_
  obtain ⟨Tq, hQ⟩ := hX.tr
  refine st_aload_n (q := 1) dX6_copyOfNow_0 rfl rfl rfl ?_
  refine g_getO (q := 4) dX6_copyOfNow_1 rfl fl_X6_16.g hX.x rfl ?_
  refine st_aload_n (q := 5) dX6_copyOfNow_4 rfl rfl rfl ?_
  refine g_getO (q := 8) dX6_copyOfNow_5 rfl fl_X6_10.g hX.x rfl ?_
  refine sm_V1 (q := 11) (M' := mX5_copyFrom) dX6_copyOfNow_8 rfl ok_X5_copyFrom mk_X5_copyFrom ml_X6_85 ⟨Nat.le_of_ble_eq_true rfl, Nat.le_of_ble_eq_true rfl⟩ rfl (Nat.le_of_ble_eq_true rfl) (g_rv hQ rfl) ⟨rfl, rfl⟩ (c_X5_copyFrom hQ hX.now (by omega)) ?_
  intro _ n w h9 _
  obtain ⟨rfl, rfl, ⟨hQ, _⟩, hF⟩ := h9
  replace hX := hX.setTrial hQ hF
  refine st_aload_n (q := 12) dX6_copyOfNow_11 rfl rfl rfl ?_
  refine g_getO (q := 15) dX6_copyOfNow_12 rfl fl_X6_16.g hX.x rfl ?_
  refine st_areturn dX6_copyOfNow_15 rfl (by first | exact Or.inl ⟨_, rfl⟩ | exact Or.inr ⟨_, rfl⟩) ?_
  exact ⟨rfl, rfl, hX, hQ, hF⟩
set_option maxRecDepth 100000 in
set_option maxHeartbeats 4000000 in
theorem c_X6_sorrowBehind {E : ev_E} {n : Nat} {w : ev_W} {T : gT} {b : Nat} (hT : TR T b n w) {nh nt dd : Nat} (hK : TK T nh nt dd) {m : Nat} (hm : m ≤ 1000) : Ct E mX6_sorrowBehind [.ref b, .int (nI m)] n w (ev_ch (some (.int (dysT T dd nh nt m 17 0))) n w b (b + 10) (TR (dysT T dd nh nt m) b n)) := by
  refine Ct.of 0 (by decide) (Nat.le_of_ble_eq_true rfl) rfl ?_
  have hF : Fr b (b + 10) w w := Fr.rf
  have hd9 := hK.2.2.2.2.2.2
  refine st_aload_n (q := 1) dX6_sorrowBehind_0 rfl rfl rfl ?_
  refine st_iload_n (q := 2) dX6_sorrowBehind_1 rfl rfl rfl ?_
  refine sm_V1 (q := 5) (M' := mX5_passDays) dX6_sorrowBehind_2 rfl ok_X5_passDays mk_X5_passDays ml_X6_189 ⟨Nat.le_of_ble_eq_true rfl, Nat.le_of_ble_eq_true rfl⟩ rfl (Nat.le_of_ble_eq_true rfl) (g_rv hT rfl) ⟨rfl, rfl⟩ (c_X5_passDays hT hK.2.2.1 hK.2.2.2.1 hK.1 hK.2.1 hK.2.2.2.2.2.1 (by omega)) ?_
  intro _ n w h9 _
  obtain ⟨rfl, rfl, hT, hF_⟩ := h9
  replace hF := Fr.tr hF hF_
  refine st_aload_n (q := 6) dX6_sorrowBehind_5 rfl rfl rfl ?_
  refine g_get (q := 9) dX6_sorrowBehind_6 rfl fl_X6_107.g hT rfl ?_
  refine st_ireturn dX6_sorrowBehind_9 rfl ?_
  exact ⟨rfl, rfl, hT, hF⟩
def lnF (T : gT) (tk : Int32) (dd nh nt m : Nat) : Bool := (List.range m).all (fun d => decide (dysT T dd nh nt (d + 1) 12 0 &&& tk = 0))
def tkI (T : gT) (x : Int32) (nt : Nat) : Int32 := thsT T x nt &&& (T 12 0 ^^^ -1)
theorem thsT_c {T U : gT} (h : U 8 = T 8) {x : Int32} : ∀ nt, thsT U x nt = thsT T x nt
  | 0 => rfl
  | k + 1 => by rw [thsT, thsT, thsT_c h k, h]
theorem tkI_c {T U : gT} {x : Int32} {nt : Nat} (h : U 8 = T 8) (h' : U 12 = T 12) : tkI U x nt = tkI T x nt := by rw [tkI, tkI, thsT_c h, h']
set_option maxRecDepth 100000 in
set_option maxHeartbeats 4000000 in
theorem c_X6_losesNoneOf {E : ev_E} {n : Nat} {w : ev_W} {T : gT} {b : Nat} (hT : TR T b n w) {nh nt dd : Nat} (hK : TK T nh nt dd) {x : Int32} {m : Nat} (hm : m ≤ 1000) : Ct E mX6_losesNoneOf [.ref b, .int x, .int (nI m)] n w (ev_ch (some (.int (zI (lnF T (tkI T x nt) dd nh nt m)))) n w b (b + 10) (fun u => ∃ U, TR U b n u)) := by
  refine Ct.of 2 (by decide) (Nat.le_of_ble_eq_true rfl) rfl ?_
  have hF : Fr b (b + 10) w w := Fr.rf
  have hd9 := hK.2.2.2.2.2.2
  have lp : ∀ (k i : Nat), i + k = m → ∀ (w1 : ev_W), TR (dysT T dd nh nt i) b n w1 → Fr b (b + 10) w w1 → (∀ j, j < i → dysT T dd nh nt (j + 1) 12 0 &&& tkI T x nt = 0) → Ev E mX6_losesNoneOf 16 [some (.ref b), some (.int x), some (.int (nI m)), some (.int (tkI T x nt)), some (.int (nI i))] [] n w1 (0, 0) (ev_ch (some (.int (zI (lnF T (tkI T x nt) dd nh nt m)))) n w b (b + 10) (fun u => ∃ U, TR U b n u)) := by
    clear hF hT
    intro k
    induction k with
    | zero =>
      intro i hi w hT hF hA
      obtain rfl : i = m := hi
      refine st_iload (q := 18) dX6_losesNoneOf_16 rfl rfl ?_
      refine st_iload_n (q := 19) dX6_losesNoneOf_18 rfl rfl rfl ?_
      refine st_icmp_ge (q := 22) (tgt := 44) dX6_losesNoneOf_19 rfl rfl (fun c_19 => ?_) (fun c_19 => False.elim (c_19 (Int32.le_refl _)))
      refine st_iconst (q := 45) dX6_losesNoneOf_44 rfl ic_1 ?_
      refine st_nreturn dX6_losesNoneOf_45 rfl (by rfl) ?_
      have e9 : lnF T (tkI T x nt) dd nh nt i = true := List.all_eq_true.mpr (fun j hj => decide_eq_true (hA j (List.mem_range.mp hj)))
      exact ⟨by rw [e9]; rfl, rfl, ⟨_, hT⟩, hF⟩
    | succ k ih =>
      intro i hi w hT hF hA
      refine st_iload (q := 18) dX6_losesNoneOf_16 rfl rfl ?_
      refine st_iload_n (q := 19) dX6_losesNoneOf_18 rfl rfl rfl ?_
      refine st_icmp_ge (q := 22) (tgt := 44) dX6_losesNoneOf_19 rfl rfl (fun c_19 => False.elim (absurd c_19 (nI_ge (a := i) (b := m) (by omega) (by omega)))) (fun c_19 => ?_)
      refine st_aload_n (q := 23) dX6_losesNoneOf_22 rfl rfl rfl ?_
      refine st_iconst (q := 24) dX6_losesNoneOf_23 rfl ic_1 ?_
      refine sm_V1 (q := 27) (M' := mX5_passDays) dX6_losesNoneOf_24 rfl ok_X5_passDays mk_X5_passDays ml_X6_189 ⟨Nat.le_of_ble_eq_true rfl, Nat.le_of_ble_eq_true rfl⟩ rfl (Nat.le_of_ble_eq_true rfl) (g_rv hT rfl) ⟨rfl, rfl⟩ (c_X5_day1 hT (by rw [dysT_6]; exact hK.2.2.1) hK.2.2.2.1 (by rw [dysT_0]; exact hK.1) hK.2.1 (dysT_16 hK.2.2.2.2.2.1 i) (by omega)) ?_
      intro _ n w h9 _
      obtain ⟨rfl, rfl, hT, hF_⟩ := h9
      replace hF := Fr.tr hF hF_
      refine st_aload_n (q := 28) dX6_losesNoneOf_27 rfl rfl rfl ?_
      refine g_get (q := 31) dX6_losesNoneOf_28 rfl fl_X6_119.g hT rfl ?_
      refine st_iload_n (q := 32) dX6_losesNoneOf_31 rfl rfl rfl ?_
      refine st_iand (q := 33) dX6_losesNoneOf_32 rfl ?_
      refine st_if_eq (q := 36) (tgt := 38) dX6_losesNoneOf_33 rfl rfl (fun c_33 => ?_) (fun c_33 => ?_)
      · refine st_iinc (q := 41) (L' := [_, _, _, _, _]) dX6_losesNoneOf_38 rfl rfl (nI_succ _).symm (Nat.le_of_ble_eq_true rfl) rfl ?_
        refine st_goto (q := 16) dX6_losesNoneOf_41 rfl ?_
        refine ih (i + 1) (by omega) w hT hF (fun j hj => ?_)
        by_cases e : j = i
        · subst e; exact c_33
        · exact hA j (by omega)
      · refine st_iconst (q := 37) dX6_losesNoneOf_36 rfl ic_0 ?_
        refine st_nreturn dX6_losesNoneOf_37 rfl (by rfl) ?_
        have e9 : lnF T (tkI T x nt) dd nh nt m = false := List.all_eq_false.mpr ⟨i, List.mem_range.mpr (by omega), by rw [decide_eq_true_eq]; exact c_33⟩
        exact ⟨by rw [e9]; rfl, rfl, ⟨_, hT⟩, hF⟩
  refine st_aload_n (q := 1) dX6_losesNoneOf_0 rfl rfl rfl ?_
  refine st_iload_n (q := 2) dX6_losesNoneOf_1 rfl rfl rfl ?_
  refine sp_V1 (q := 5) (M' := mX5_thingsOf) dX6_losesNoneOf_2 rfl ok_X5_thingsOf mk_X5_thingsOf ml_X6_129 ⟨Nat.le_of_ble_eq_true rfl, Nat.le_of_ble_eq_true rfl⟩ rfl (Nat.le_of_ble_eq_true rfl) (g_rv hT rfl) ⟨rfl, rfl⟩ (c_X5_thingsOf hT hK.2.2.1 hK.2.2.2.1) ?_
  refine st_aload_n (q := 6) dX6_losesNoneOf_5 rfl rfl rfl ?_
  refine g_get (q := 9) dX6_losesNoneOf_6 rfl fl_X6_119.g hT rfl ?_
  refine st_iconst (q := 10) dX6_losesNoneOf_9 rfl ic_m1 ?_
  refine st_ixor (q := 11) dX6_losesNoneOf_10 rfl ?_
  refine st_iand (q := 12) dX6_losesNoneOf_11 rfl ?_
  refine st_istore_n (q := 13) (L' := [_, _, _, _, _]) dX6_losesNoneOf_12 rfl rfl (Nat.le_of_ble_eq_true rfl) rfl ?_
  refine st_iconst (q := 14) dX6_losesNoneOf_13 rfl ic_0 ?_
  refine st_istore (q := 16) (L' := [_, _, _, _, _]) dX6_losesNoneOf_14 rfl (Nat.le_of_ble_eq_true rfl) rfl ?_
  exact lp m 0 (by omega) w hT hF (fun j hj => absurd hj (Nat.not_lt_zero j))
def hiF (T : gT) (dd nh nt : Nat) : Nat → Int32
  | 0 => T 15 0
  | k + 1 => mxI (hiF T dd nh nt k) (dysT T dd nh nt (k + 1) 15 0)
def runsS (T : gT) (nh nt dd : Nat) (x y : Int32) : Int32 := if inI x 0 60 = true then (if inI y 0 3 = true then (if y = 0 then dysT T dd nh nt x.toNatClampNeg 17 0 - T 17 0 else if y = 1 then dysT T dd nh nt x.toNatClampNeg 12 0 else if y = 2 then dysT T dd nh nt x.toNatClampNeg 5 0 else hiF T dd nh nt x.toNatClampNeg) else -1) else -1
def aheadS (T : gT) (nh nt dd : Nat) (x y z : Int32) : Int32 := if inI x 0 (nI nh - 1) = true then (if inI y 0 60 = true then (if inI z 0 1 = true then dysT T dd nh nt y.toNatClampNeg (if z = 0 then 4 else 2) x.toNatClampNeg else -1) else -1) else -1
def srF (p : Nat → Bool) : Nat → Nat → Int32
  | _, 0 => -4
  | i, k + 1 => if p i = true then nI i else srF p (i + 1) k
def lostS (T : gT) (nh nt dd : Nat) (x : Int32) : Int32 := if inI x 0 (nI nt - 1) = true then srF (fun d => btI (dysT T dd nh nt d 12 0) x) 0 61 else -1
def meetP (T : gT) (nh nt dd : Nat) (x y : Int32) (d : Nat) : Bool := btI (dysT T dd nh nt d 5 0) x && (btI (dysT T dd nh nt d 5 0) y && decide (dysT T dd nh nt d 4 x.toNatClampNeg = dysT T dd nh nt d 4 y.toNatClampNeg))
def meetS (T : gT) (nh nt dd : Nat) (x y : Int32) : Int32 := if inI x 0 (nI nh - 1) = true then (if inI y 0 (nI nh - 1) = true then (if x = y then -1 else srF (meetP T nh nt dd x y) 0 61) else -1) else -1
def needT (T : gT) (nt : Nat) (x : Int32) (r : Nat) : gT := tup (tup T 2 x.toNatClampNeg (nI r)) 11 0 (T 11 0 ||| tkI T x nt)
def needS (T : gT) (nh nt dd : Nat) (x y : Int32) : Int32 := if inI x 0 (nI nh - 1) = true then (if inI y 0 60 = true then srF (fun r => lnF (needT T nt x r) (tkI T x nt) dd nh nt y.toNatClampNeg) 0 41 else -1) else -1
def highS (T : gT) (nh nt dd : Nat) (x y : Int32) : Int32 := if inI x 0 (nI nh - 1) = true then (if inI y 0 60 = true then srF (fun r => lnF (tup T 1 x.toNatClampNeg (nI r)) (tkI T x nt) dd nh nt y.toNatClampNeg) 0 21 else -1) else -1
set_option maxRecDepth 100000 in
set_option maxHeartbeats 4000000 in
theorem c_X6_runs {E : ev_E} {X Tn : gT} {Ti : Nat → gT} {Tp Sg : gT} {Sh : Nat → gT} {n : Nat} {w : ev_W} {w0 : ev_W} (hF : Fr 0 70 w0 w) (hX : XI X Tn Ti Tp Sg Sh n w) {nh nt dd : Nat} (hK : TK Tn nh nt dd) {x y : Int32} : Ct E mX6_runs [.ref 0, .int x, .int y] n w (ev_xr (runsS Tn nh nt dd x y) n w0 (XI X Tn Ti Tp Sg Sh n)) := by
  refine Ct.of 3 (by decide) (Nat.le_of_ble_eq_true rfl) rfl ?_
  have hd9 := hK.2.2.2.2.2.2
  refine st_iload_n (q := 1) dX6_runs_0 rfl rfl rfl ?_
  refine sp_S1 (q := 4) (M' := mX6_isAhead) dX6_runs_1 rfl ok_X6_isAhead mk_X6_isAhead ml_X6_193 ⟨Nat.le_of_ble_eq_true rfl, Nat.le_of_ble_eq_true rfl⟩ rfl (Nat.le_of_ble_eq_true rfl) ⟨rfl, rfl⟩ (c_X6_isAhead) ?_
  refine st_if_eq (q := 7) (tgt := 16) dX6_runs_4 rfl rfl (fun c_4 => ?_) (fun c_4 => ?_)
  · refine st_iconst (q := 17) dX6_runs_16 rfl ic_m1 ?_
    refine st_ireturn dX6_runs_17 rfl ?_
    first
      | exact ⟨by rw [runsS, if_neg (by rw [zI_0.mp c_4]; decide)], rfl, hX, hF⟩
      | exact ⟨by rw [runsS, if_pos (zI_1.mp c_4), if_neg (by rw [zI_0.mp c_13]; decide)], rfl, hX, hF⟩
  · refine st_iload_n (q := 8) dX6_runs_7 rfl rfl rfl ?_
    refine st_iconst (q := 9) dX6_runs_8 rfl ic_0 ?_
    refine st_iconst (q := 10) dX6_runs_9 rfl ic_3 ?_
    refine sp_S3 (q := 13) (M' := mX6_within) dX6_runs_10 rfl ok_X6_within mk_X6_within ml_X6_51 ⟨Nat.le_of_ble_eq_true rfl, Nat.le_of_ble_eq_true rfl⟩ rfl (Nat.le_of_ble_eq_true rfl) ⟨rfl, rfl⟩ (c_X6_within) ?_
    refine st_if_ne (q := 16) (tgt := 18) dX6_runs_13 rfl rfl (fun c_13 => ?_) (fun c_13 => ?_)
    · obtain ⟨m, hm, rfl⟩ := inI_k (k := 60) (zI_1.mp c_4) (by decide)
      have h60 : inI (nI m) 0 60 = true := zI_1.mp c_4
      have hmc : (nI m).toNatClampNeg = m := nI_clamp (by omega)
      have h2 : inI y 0 3 = true := zI_1.mp c_13
      refine st_aload_n (q := 19) dX6_runs_18 rfl rfl rfl ?_
      refine sm_V0 (q := 22) (M' := mX6_copyOfNow) dX6_runs_19 rfl ok_X6_copyOfNow mk_X6_copyOfNow ml_X6_196 ⟨Nat.le_of_ble_eq_true rfl, Nat.le_of_ble_eq_true rfl⟩ rfl (Nat.le_of_ble_eq_true rfl) (g_rv hX.x rfl) ⟨rfl, rfl⟩ (c_X6_copyOfNow hX) ?_
      intro _ n w h9 _
      obtain ⟨rfl, rfl, hX, hQ, hF_⟩ := h9
      replace hF := Fr.tr hF (hF_.mono (by omega) (by omega))
      refine st_astore_n (q := 23) (L' := [_, _, _, _, _, _]) dX6_runs_22 rfl rfl (Nat.le_of_ble_eq_true rfl) rfl ?_
      refine st_aload_n (q := 24) dX6_runs_23 rfl rfl rfl ?_
      refine g_get (q := 27) dX6_runs_24 rfl fl_X6_104.g hQ rfl ?_
      refine st_istore (q := 29) (L' := [_, _, _, _, _, _]) dX6_runs_27 rfl (Nat.le_of_ble_eq_true rfl) rfl ?_
      refine st_iconst (q := 30) dX6_runs_29 rfl ic_0 ?_
      refine st_istore (q := 32) (L' := [_, _, _, _, _, _]) dX6_runs_30 rfl (Nat.le_of_ble_eq_true rfl) rfl ?_
      have lp : ∀ (k i : Nat), i + k = m → ∀ (w1 : ev_W), XI X Tn Ti Tp Sg Sh n w1 → Fr 0 70 w0 w1 → TR (dysT Tn dd nh nt i) 11 n w1 → Ev E mX6_runs 32 [some (.ref 0), some (.int (nI m)), some (.int y), some (.ref 11), some (.int (hiF Tn dd nh nt i)), some (.int (nI i))] [] n w1 (0, 0) (ev_xr (runsS Tn nh nt dd (nI m) y) n w0 (XI X Tn Ti Tp Sg Sh n)) := by
        clear hX hF hQ
        intro k
        induction k with
        | zero =>
          intro i hi w hX hF hQ
          obtain rfl : i = m := hi
          refine st_iload (q := 34) dX6_runs_32 rfl rfl ?_
          refine st_iload_n (q := 35) dX6_runs_34 rfl rfl rfl ?_
          refine st_icmp_ge (q := 38) (tgt := 60) dX6_runs_35 rfl rfl (fun c_35 => ?_) (fun c_35 => False.elim (c_35 (Int32.le_refl _)))
          refine st_iload_n (q := 61) dX6_runs_60 rfl rfl rfl ?_
          refine st_tabK 0 (v := 0) (tgt := 88) dX6_runs_61 rfl rfl (by decide) (by decide) (fun c_61_0 => ?_) (fun c_61_0 t_61_0 => ?_)
          · refine st_aload_n (q := 89) dX6_runs_88 rfl rfl rfl ?_
            refine g_get (q := 92) dX6_runs_89 rfl fl_X6_107.g hQ rfl ?_
            refine st_aload_n (q := 93) dX6_runs_92 rfl rfl rfl ?_
            refine g_getO (q := 96) dX6_runs_93 rfl fl_X6_10.g hX.x rfl ?_
            refine g_get (q := 99) dX6_runs_96 rfl fl_X6_107.g hX.now rfl ?_
            refine st_isub (q := 100) dX6_runs_99 rfl ?_
            refine st_ireturn dX6_runs_100 rfl ?_
            refine ⟨?_, rfl, hX, hF⟩
            rw [runsS, if_pos h60, if_pos h2, hmc]
            simp_all
          refine st_tabK 1 (v := 1) (tgt := 101) dX6_runs_61 rfl rfl (by decide) (by decide) (fun c_61_1 => ?_) (fun c_61_1 t_61_1 => ?_)
          · refine st_aload_n (q := 102) dX6_runs_101 rfl rfl rfl ?_
            refine g_get (q := 105) dX6_runs_102 rfl fl_X6_119.g hQ rfl ?_
            refine st_ireturn dX6_runs_105 rfl ?_
            refine ⟨?_, rfl, hX, hF⟩
            rw [runsS, if_pos h60, if_pos h2, hmc]
            simp_all
          refine st_tabK 2 (v := 2) (tgt := 106) dX6_runs_61 rfl rfl (by decide) (by decide) (fun c_61_2 => ?_) (fun c_61_2 t_61_2 => ?_)
          · refine st_aload_n (q := 107) dX6_runs_106 rfl rfl rfl ?_
            refine g_get (q := 110) dX6_runs_107 rfl fl_X6_113.g hQ rfl ?_
            refine st_ireturn dX6_runs_110 rfl ?_
            refine ⟨?_, rfl, hX, hF⟩
            rw [runsS, if_pos h60, if_pos h2, hmc]
            simp_all
          refine st_tableOut (tgt := 111) dX6_runs_61 (by omega) rfl ?_
          refine st_iload (q := 113) dX6_runs_111 rfl rfl ?_
          refine st_ireturn dX6_runs_113 rfl ?_
          refine ⟨?_, rfl, hX, hF⟩
          rw [runsS, if_pos h60, if_pos h2, hmc]
          simp_all
        | succ k ih =>
          intro i hi w hX hF hQ
          refine st_iload (q := 34) dX6_runs_32 rfl rfl ?_
          refine st_iload_n (q := 35) dX6_runs_34 rfl rfl rfl ?_
          refine st_icmp_ge (q := 38) (tgt := 60) dX6_runs_35 rfl rfl (fun c_35 => False.elim (absurd c_35 (nI_ge (a := i) (b := m) (by omega) (by omega)))) (fun c_35 => ?_)
          refine st_aload_n (q := 39) dX6_runs_38 rfl rfl rfl ?_
          refine st_iconst (q := 40) dX6_runs_39 rfl ic_1 ?_
          refine sm_V1 (q := 43) (M' := mX5_passDays) dX6_runs_40 rfl ok_X5_passDays mk_X5_passDays ml_X6_189 ⟨Nat.le_of_ble_eq_true rfl, Nat.le_of_ble_eq_true rfl⟩ rfl (Nat.le_of_ble_eq_true rfl) (g_rv hQ rfl) ⟨rfl, rfl⟩ (c_X5_day1 hQ (by rw [dysT_6]; exact hK.2.2.1) hK.2.2.2.1 (by rw [dysT_0]; exact hK.1) hK.2.1 (dysT_16 hK.2.2.2.2.2.1 i) (by omega)) ?_
          intro _ n w h9 _
          obtain ⟨rfl, rfl, hQ, hF_⟩ := h9
          replace hX := hX.setTrial hQ hF_
          replace hF := Fr.tr hF (hF_.mono (by omega) (by omega))
          refine st_iload (q := 45) dX6_runs_43 rfl rfl ?_
          refine st_aload_n (q := 46) dX6_runs_45 rfl rfl rfl ?_
          refine g_get (q := 49) dX6_runs_46 rfl fl_X6_104.g hQ rfl ?_
          refine st_mmax (q := 52) dX6_runs_49 rfl ml_X6_200 jm_max_s jm_i jm_max_c (Nat.le_of_ble_eq_true rfl) (Nat.le_of_ble_eq_true rfl) (Nat.le_of_ble_eq_true rfl) ?_
          refine st_istore (q := 54) (L' := [_, _, _, _, _, _]) dX6_runs_52 rfl (Nat.le_of_ble_eq_true rfl) rfl ?_
          refine st_iinc (q := 57) (L' := [_, _, _, _, _, _]) dX6_runs_54 rfl rfl (nI_succ _).symm (Nat.le_of_ble_eq_true rfl) rfl ?_
          refine st_goto (q := 32) dX6_runs_57 rfl ?_
          exact ih (i + 1) (by omega) w hX hF hQ
      exact lp m 0 (by omega) w hX hF hQ
    · refine st_iconst (q := 17) dX6_runs_16 rfl ic_m1 ?_
      refine st_ireturn dX6_runs_17 rfl ?_
      first
        | exact ⟨by rw [runsS, if_neg (by rw [zI_0.mp c_4]; decide)], rfl, hX, hF⟩
        | exact ⟨by rw [runsS, if_pos (zI_1.mp c_4), if_neg (by rw [zI_0.mp c_13]; decide)], rfl, hX, hF⟩
set_option maxRecDepth 100000 in
set_option maxHeartbeats 4000000 in
theorem c_X6_ahead {E : ev_E} {X Tn : gT} {Ti : Nat → gT} {Tp Sg : gT} {Sh : Nat → gT} {n : Nat} {w : ev_W} {w0 : ev_W} (hF : Fr 0 70 w0 w) (hX : XI X Tn Ti Tp Sg Sh n w) {nh nt dd : Nat} (hK : TK Tn nh nt dd) {x y z : Int32} : Ct E mX6_ahead [.ref 0, .int x, .int y, .int z] n w (ev_xr (aheadS Tn nh nt dd x y z) n w0 (XI X Tn Ti Tp Sg Sh n)) := by
  refine Ct.of 1 (by decide) (Nat.le_of_ble_eq_true rfl) rfl ?_
  have hd9 := hK.2.2.2.2.2.2
  refine st_aload_n (q := 1) dX6_ahead_0 rfl rfl rfl ?_
  refine g_getO (q := 4) dX6_ahead_1 rfl fl_X6_10.g hX.x rfl ?_
  refine st_iload_n (q := 5) dX6_ahead_4 rfl rfl rfl ?_
  refine sp_V1 (q := 8) (M' := mX5_isHouse) dX6_ahead_5 rfl ok_X5_isHouse mk_X5_isHouse ml_X6_122 ⟨Nat.le_of_ble_eq_true rfl, Nat.le_of_ble_eq_true rfl⟩ rfl (Nat.le_of_ble_eq_true rfl) (g_rv hX.now rfl) ⟨rfl, rfl⟩ (c_X5_isHouse hX.now) ?_
  refine st_if_eq (q := 11) (tgt := 27) dX6_ahead_8 rfl rfl (fun c_8 => ?_) (fun c_8 => ?_)
  · refine st_iconst (q := 28) dX6_ahead_27 rfl ic_m1 ?_
    refine st_ireturn dX6_ahead_28 rfl ?_
    first
      | exact ⟨by rw [aheadS, if_neg (by rw [← hK.1, zI_0.mp c_8]; decide)], rfl, hX, hF⟩
      | exact ⟨by rw [aheadS, if_pos (by rw [← hK.1]; exact zI_1.mp c_8), if_neg (by rw [zI_0.mp c_15]; decide)], rfl, hX, hF⟩
      | exact ⟨by rw [aheadS, if_pos (by rw [← hK.1]; exact zI_1.mp c_8), if_pos (zI_1.mp c_15), if_neg (by rw [zI_0.mp c_24]; decide)], rfl, hX, hF⟩
  · refine st_iload_n (q := 12) dX6_ahead_11 rfl rfl rfl ?_
    refine sp_S1 (q := 15) (M' := mX6_isAhead) dX6_ahead_12 rfl ok_X6_isAhead mk_X6_isAhead ml_X6_193 ⟨Nat.le_of_ble_eq_true rfl, Nat.le_of_ble_eq_true rfl⟩ rfl (Nat.le_of_ble_eq_true rfl) ⟨rfl, rfl⟩ (c_X6_isAhead) ?_
    refine st_if_eq (q := 18) (tgt := 27) dX6_ahead_15 rfl rfl (fun c_15 => ?_) (fun c_15 => ?_)
    · refine st_iconst (q := 28) dX6_ahead_27 rfl ic_m1 ?_
      refine st_ireturn dX6_ahead_28 rfl ?_
      first
        | exact ⟨by rw [aheadS, if_neg (by rw [← hK.1, zI_0.mp c_8]; decide)], rfl, hX, hF⟩
        | exact ⟨by rw [aheadS, if_pos (by rw [← hK.1]; exact zI_1.mp c_8), if_neg (by rw [zI_0.mp c_15]; decide)], rfl, hX, hF⟩
        | exact ⟨by rw [aheadS, if_pos (by rw [← hK.1]; exact zI_1.mp c_8), if_pos (zI_1.mp c_15), if_neg (by rw [zI_0.mp c_24]; decide)], rfl, hX, hF⟩
    · refine st_iload_n (q := 19) dX6_ahead_18 rfl rfl rfl ?_
      refine st_iconst (q := 20) dX6_ahead_19 rfl ic_0 ?_
      refine st_iconst (q := 21) dX6_ahead_20 rfl ic_1 ?_
      refine sp_S3 (q := 24) (M' := mX6_within) dX6_ahead_21 rfl ok_X6_within mk_X6_within ml_X6_51 ⟨Nat.le_of_ble_eq_true rfl, Nat.le_of_ble_eq_true rfl⟩ rfl (Nat.le_of_ble_eq_true rfl) ⟨rfl, rfl⟩ (c_X6_within) ?_
      refine st_if_ne (q := 27) (tgt := 29) dX6_ahead_24 rfl rfl (fun c_24 => ?_) (fun c_24 => ?_)
      · obtain ⟨j, hj, rfl⟩ := inI_ix (by rw [← hK.1]; exact zI_1.mp c_8) (by have := hK.2.1; omega)
        have h1 : inI (nI j) 0 (nI nh - 1) = true := by rw [← hK.1]; exact zI_1.mp c_8
        have hjc : (nI j).toNatClampNeg = j := nI_clamp (by have := hK.2.1; omega)
        have hK4 := hK.2.1
        obtain ⟨m, hm, rfl⟩ := inI_k (k := 60) (zI_1.mp c_15) (by decide)
        have h60 : inI (nI m) 0 60 = true := zI_1.mp c_15
        have hmc : (nI m).toNatClampNeg = m := nI_clamp (by omega)
        refine st_aload_n (q := 30) dX6_ahead_29 rfl rfl rfl ?_
        refine sm_V0 (q := 33) (M' := mX6_copyOfNow) dX6_ahead_30 rfl ok_X6_copyOfNow mk_X6_copyOfNow ml_X6_196 ⟨Nat.le_of_ble_eq_true rfl, Nat.le_of_ble_eq_true rfl⟩ rfl (Nat.le_of_ble_eq_true rfl) (g_rv hX.x rfl) ⟨rfl, rfl⟩ (c_X6_copyOfNow hX) ?_
        intro _ n w h9 _
        obtain ⟨rfl, rfl, hX, hQ, hF_⟩ := h9
        replace hF := Fr.tr hF (hF_.mono (by omega) (by omega))
        refine st_astore (q := 35) (L' := [_, _, _, _, _]) dX6_ahead_33 rfl (Nat.le_of_ble_eq_true rfl) rfl ?_
        refine st_aload (q := 37) dX6_ahead_35 rfl rfl ?_
        refine st_iload_n (q := 38) dX6_ahead_37 rfl rfl rfl ?_
        refine sm_V1 (q := 41) (M' := mX5_passDays) dX6_ahead_38 rfl ok_X5_passDays mk_X5_passDays ml_X6_189 ⟨Nat.le_of_ble_eq_true rfl, Nat.le_of_ble_eq_true rfl⟩ rfl (Nat.le_of_ble_eq_true rfl) (g_rv hQ rfl) ⟨rfl, rfl⟩ (c_X5_passDays hQ hK.2.2.1 hK.2.2.2.1 hK.1 hK.2.1 hK.2.2.2.2.2.1 (by omega)) ?_
        intro _ n w h9 _
        obtain ⟨rfl, rfl, hQ, hF_⟩ := h9
        replace hX := hX.setTrial hQ hF_
        replace hF := Fr.tr hF (hF_.mono (by omega) (by omega))
        refine st_iload_n (q := 42) dX6_ahead_41 rfl rfl rfl ?_
        refine st_if_ne (q := 45) (tgt := 55) dX6_ahead_42 rfl rfl (fun c_42 => ?_) (fun c_42 => ?_)
        · refine st_aload (q := 57) dX6_ahead_55 rfl rfl ?_
          refine g_getA (q := 60) dX6_ahead_57 rfl fl_X6_209 hQ rfl ?_
          refine st_iload_n (q := 61) dX6_ahead_60 rfl rfl rfl ?_
          refine g_iald (q := 62) dX6_ahead_61 rfl gkX5 hQ (i := 2) rfl (by exact ev_ix_nI (j := j) (by omega) (by decide)) ?_
          refine st_ireturn dX6_ahead_62 rfl ?_
          first
            | exact ⟨by rw [aheadS, if_pos h1, if_pos h60, if_pos (zI_1.mp c_24), hjc, hmc, if_pos c_42], rfl, hX, hF⟩
            | exact ⟨by rw [aheadS, if_pos h1, if_pos h60, if_pos (zI_1.mp c_24), hjc, hmc, if_neg c_42], rfl, hX, hF⟩
        · refine st_aload (q := 47) dX6_ahead_45 rfl rfl ?_
          refine g_getA (q := 50) dX6_ahead_47 rfl fl_X6_206 hQ rfl ?_
          refine st_iload_n (q := 51) dX6_ahead_50 rfl rfl rfl ?_
          refine g_iald (q := 52) dX6_ahead_51 rfl gkX5 hQ (i := 4) rfl (by exact ev_ix_nI (j := j) (by omega) (by decide)) ?_
          refine st_goto (q := 62) dX6_ahead_52 rfl ?_
          refine st_ireturn dX6_ahead_62 rfl ?_
          first
            | exact ⟨by rw [aheadS, if_pos h1, if_pos h60, if_pos (zI_1.mp c_24), hjc, hmc, if_pos c_42], rfl, hX, hF⟩
            | exact ⟨by rw [aheadS, if_pos h1, if_pos h60, if_pos (zI_1.mp c_24), hjc, hmc, if_neg c_42], rfl, hX, hF⟩
      · refine st_iconst (q := 28) dX6_ahead_27 rfl ic_m1 ?_
        refine st_ireturn dX6_ahead_28 rfl ?_
        first
          | exact ⟨by rw [aheadS, if_neg (by rw [← hK.1, zI_0.mp c_8]; decide)], rfl, hX, hF⟩
          | exact ⟨by rw [aheadS, if_pos (by rw [← hK.1]; exact zI_1.mp c_8), if_neg (by rw [zI_0.mp c_15]; decide)], rfl, hX, hF⟩
          | exact ⟨by rw [aheadS, if_pos (by rw [← hK.1]; exact zI_1.mp c_8), if_pos (zI_1.mp c_15), if_neg (by rw [zI_0.mp c_24]; decide)], rfl, hX, hF⟩
set_option maxRecDepth 100000 in
set_option maxHeartbeats 4000000 in
theorem c_X6_lost {E : ev_E} {X Tn : gT} {Ti : Nat → gT} {Tp Sg : gT} {Sh : Nat → gT} {n : Nat} {w : ev_W} {w0 : ev_W} (hF : Fr 0 70 w0 w) (hX : XI X Tn Ti Tp Sg Sh n w) {nh nt dd : Nat} (hK : TK Tn nh nt dd) {x : Int32} : Ct E mX6_lost [.ref 0, .int x] n w (ev_xr (lostS Tn nh nt dd x) n w0 (XI X Tn Ti Tp Sg Sh n)) := by
  refine Ct.of 2 (by decide) (Nat.le_of_ble_eq_true rfl) rfl ?_
  have hd9 := hK.2.2.2.2.2.2
  refine st_aload_n (q := 1) dX6_lost_0 rfl rfl rfl ?_
  refine g_getO (q := 4) dX6_lost_1 rfl fl_X6_10.g hX.x rfl ?_
  refine st_iload_n (q := 5) dX6_lost_4 rfl rfl rfl ?_
  refine sp_V1 (q := 8) (M' := mX5_isThing) dX6_lost_5 rfl ok_X5_isThing mk_X5_isThing ml_X6_136 ⟨Nat.le_of_ble_eq_true rfl, Nat.le_of_ble_eq_true rfl⟩ rfl (Nat.le_of_ble_eq_true rfl) (g_rv hX.now rfl) ⟨rfl, rfl⟩ (c_X5_isThing hX.now) ?_
  refine st_if_ne (q := 11) (tgt := 13) dX6_lost_8 rfl rfl (fun c_8 => ?_) (fun c_8 => ?_)
  · have h1 : inI x 0 (nI nt - 1) = true := by rw [← hK.2.2.1]; exact zI_1.mp c_8
    refine st_aload_n (q := 14) dX6_lost_13 rfl rfl rfl ?_
    refine sm_V0 (q := 17) (M' := mX6_copyOfNow) dX6_lost_14 rfl ok_X6_copyOfNow mk_X6_copyOfNow ml_X6_196 ⟨Nat.le_of_ble_eq_true rfl, Nat.le_of_ble_eq_true rfl⟩ rfl (Nat.le_of_ble_eq_true rfl) (g_rv hX.x rfl) ⟨rfl, rfl⟩ (c_X6_copyOfNow hX) ?_
    intro _ n w h9 _
    obtain ⟨rfl, rfl, hX, hQ, hF_⟩ := h9
    replace hF := Fr.tr hF (hF_.mono (by omega) (by omega))
    refine st_astore_n (q := 18) (L' := [_, _, _, _]) dX6_lost_17 rfl rfl (Nat.le_of_ble_eq_true rfl) rfl ?_
    refine st_iconst (q := 19) dX6_lost_18 rfl ic_0 ?_
    refine st_istore_n (q := 20) (L' := [_, _, _, _]) dX6_lost_19 rfl rfl (Nat.le_of_ble_eq_true rfl) rfl ?_
    have lp : ∀ (k i : Nat), i + k = 61 → ∀ (w1 : ev_W), XI X Tn Ti Tp Sg Sh n w1 → Fr 0 70 w0 w1 → TR (dysT Tn dd nh nt i) 11 n w1 → srF (fun d => btI (dysT Tn dd nh nt d 12 0) x) i k = lostS Tn nh nt dd x → Ev E mX6_lost 20 [some (.ref 0), some (.int x), some (.ref 11), some (.int (nI i))] [] n w1 (0, 0) (ev_xr (lostS Tn nh nt dd x) n w0 (XI X Tn Ti Tp Sg Sh n)) := by
      clear hX hF hQ
      intro k
      induction k with
      | zero =>
        intro i hi w hX hF hQ hs
        obtain rfl : i = 61 := hi
        refine st_iload_n (q := 21) dX6_lost_20 rfl rfl rfl ?_
        refine st_bipush (q := 23) dX6_lost_21 rfl bp_60 ?_
        refine st_icmp_gt (q := 26) (tgt := 47) dX6_lost_23 rfl rfl (fun c_23 => ?_) (fun c_23 => False.elim (c_23 (by decide)))
        refine st_bipush (q := 49) dX6_lost_47 rfl bp_m4 ?_
        refine st_ireturn dX6_lost_49 rfl ?_
        exact ⟨by rw [← hs]; rfl, rfl, hX, hF⟩
      | succ k ih =>
        intro i hi w hX hF hQ hs
        refine st_iload_n (q := 21) dX6_lost_20 rfl rfl rfl ?_
        refine st_bipush (q := 23) dX6_lost_21 rfl bp_60 ?_
        refine st_icmp_gt (q := 26) (tgt := 47) dX6_lost_23 rfl rfl (fun c_23 => False.elim (absurd c_23 (nI_nlt (a := 60) (b := i) (by omega) (by omega)))) (fun c_23 => ?_)
        refine st_aload_n (q := 27) dX6_lost_26 rfl rfl rfl ?_
        refine st_iload_n (q := 28) dX6_lost_27 rfl rfl rfl ?_
        refine sp_V1 (q := 31) (M' := mX5_isGone) dX6_lost_28 rfl ok_X5_isGone mk_X5_isGone ml_X6_212 ⟨Nat.le_of_ble_eq_true rfl, Nat.le_of_ble_eq_true rfl⟩ rfl (Nat.le_of_ble_eq_true rfl) (g_rv hQ rfl) ⟨rfl, rfl⟩ (c_X5_isGone hQ) ?_
        refine st_if_eq (q := 34) (tgt := 36) dX6_lost_31 rfl rfl (fun c_31 => ?_) (fun c_31 => ?_)
        · refine st_aload_n (q := 37) dX6_lost_36 rfl rfl rfl ?_
          refine st_iconst (q := 38) dX6_lost_37 rfl ic_1 ?_
          refine sm_V1 (q := 41) (M' := mX5_passDays) dX6_lost_38 rfl ok_X5_passDays mk_X5_passDays ml_X6_189 ⟨Nat.le_of_ble_eq_true rfl, Nat.le_of_ble_eq_true rfl⟩ rfl (Nat.le_of_ble_eq_true rfl) (g_rv hQ rfl) ⟨rfl, rfl⟩ (c_X5_day1 hQ (by rw [dysT_6]; exact hK.2.2.1) hK.2.2.2.1 (by rw [dysT_0]; exact hK.1) hK.2.1 (dysT_16 hK.2.2.2.2.2.1 i) (by omega)) ?_
          intro _ n w h9 _
          obtain ⟨rfl, rfl, hQ, hF_⟩ := h9
          replace hX := hX.setTrial hQ hF_
          replace hF := Fr.tr hF (hF_.mono (by omega) (by omega))
          refine st_iinc (q := 44) (L' := [_, _, _, _]) dX6_lost_41 rfl rfl (nI_succ _).symm (Nat.le_of_ble_eq_true rfl) rfl ?_
          refine st_goto (q := 20) dX6_lost_44 rfl ?_
          refine ih (i + 1) (by omega) w hX hF hQ ?_
          rw [← hs, srF, if_neg (by rw [zI_0.mp c_31]; decide)]
        · refine st_iload_n (q := 35) dX6_lost_34 rfl rfl rfl ?_
          refine st_ireturn dX6_lost_35 rfl ?_
          exact ⟨by rw [← hs, srF, if_pos (zI_1.mp c_31)], rfl, hX, hF⟩
    exact lp 61 0 (by omega) w hX hF hQ (by rw [lostS, if_pos h1])
  · refine st_iconst (q := 12) dX6_lost_11 rfl ic_m1 ?_
    refine st_ireturn dX6_lost_12 rfl ?_
    exact ⟨by rw [lostS, if_neg (by rw [← hK.2.2.1, zI_0.mp c_8]; decide)], rfl, hX, hF⟩
set_option maxRecDepth 100000 in
set_option maxHeartbeats 4000000 in
theorem c_X6_meet {E : ev_E} {X Tn : gT} {Ti : Nat → gT} {Tp Sg : gT} {Sh : Nat → gT} {n : Nat} {w : ev_W} {w0 : ev_W} (hF : Fr 0 70 w0 w) (hX : XI X Tn Ti Tp Sg Sh n w) {nh nt dd : Nat} (hK : TK Tn nh nt dd) {x y : Int32} : Ct E mX6_meet [.ref 0, .int x, .int y] n w (ev_xr (meetS Tn nh nt dd x y) n w0 (XI X Tn Ti Tp Sg Sh n)) := by
  refine Ct.of 2 (by decide) (Nat.le_of_ble_eq_true rfl) rfl ?_
  have hd9 := hK.2.2.2.2.2.2
  refine st_aload_n (q := 1) dX6_meet_0 rfl rfl rfl ?_
  refine g_getO (q := 4) dX6_meet_1 rfl fl_X6_10.g hX.x rfl ?_
  refine st_iload_n (q := 5) dX6_meet_4 rfl rfl rfl ?_
  refine sp_V1 (q := 8) (M' := mX5_isHouse) dX6_meet_5 rfl ok_X5_isHouse mk_X5_isHouse ml_X6_122 ⟨Nat.le_of_ble_eq_true rfl, Nat.le_of_ble_eq_true rfl⟩ rfl (Nat.le_of_ble_eq_true rfl) (g_rv hX.now rfl) ⟨rfl, rfl⟩ (c_X5_isHouse hX.now) ?_
  refine st_if_eq (q := 11) (tgt := 27) dX6_meet_8 rfl rfl (fun c_8 => ?_) (fun c_8 => ?_)
  · refine st_iconst (q := 28) dX6_meet_27 rfl ic_m1 ?_
    refine st_ireturn dX6_meet_28 rfl ?_
    first
      | exact ⟨by rw [meetS, if_neg (by rw [← hK.1, zI_0.mp c_8]; decide)], rfl, hX, hF⟩
      | exact ⟨by rw [meetS, if_pos (by rw [← hK.1]; exact zI_1.mp c_8), if_neg (by rw [← hK.1, zI_0.mp c_19]; decide)], rfl, hX, hF⟩
      | exact ⟨by rw [meetS, if_pos (by rw [← hK.1]; exact zI_1.mp c_8), if_pos (by rw [← hK.1]; exact zI_1.mp c_19), if_pos c_24], rfl, hX, hF⟩
  · refine st_aload_n (q := 12) dX6_meet_11 rfl rfl rfl ?_
    refine g_getO (q := 15) dX6_meet_12 rfl fl_X6_10.g hX.x rfl ?_
    refine st_iload_n (q := 16) dX6_meet_15 rfl rfl rfl ?_
    refine sp_V1 (q := 19) (M' := mX5_isHouse) dX6_meet_16 rfl ok_X5_isHouse mk_X5_isHouse ml_X6_122 ⟨Nat.le_of_ble_eq_true rfl, Nat.le_of_ble_eq_true rfl⟩ rfl (Nat.le_of_ble_eq_true rfl) (g_rv hX.now rfl) ⟨rfl, rfl⟩ (c_X5_isHouse hX.now) ?_
    refine st_if_eq (q := 22) (tgt := 27) dX6_meet_19 rfl rfl (fun c_19 => ?_) (fun c_19 => ?_)
    · refine st_iconst (q := 28) dX6_meet_27 rfl ic_m1 ?_
      refine st_ireturn dX6_meet_28 rfl ?_
      first
        | exact ⟨by rw [meetS, if_neg (by rw [← hK.1, zI_0.mp c_8]; decide)], rfl, hX, hF⟩
        | exact ⟨by rw [meetS, if_pos (by rw [← hK.1]; exact zI_1.mp c_8), if_neg (by rw [← hK.1, zI_0.mp c_19]; decide)], rfl, hX, hF⟩
        | exact ⟨by rw [meetS, if_pos (by rw [← hK.1]; exact zI_1.mp c_8), if_pos (by rw [← hK.1]; exact zI_1.mp c_19), if_pos c_24], rfl, hX, hF⟩
    · refine st_iload_n (q := 23) dX6_meet_22 rfl rfl rfl ?_
      refine st_iload_n (q := 24) dX6_meet_23 rfl rfl rfl ?_
      refine st_icmp_ne (q := 27) (tgt := 29) dX6_meet_24 rfl rfl (fun c_24 => ?_) (fun c_24 => ?_)
      · obtain ⟨j, hj, rfl⟩ := inI_ix (by rw [← hK.1]; exact zI_1.mp c_8) (by have := hK.2.1; omega)
        have h1 : inI (nI j) 0 (nI nh - 1) = true := by rw [← hK.1]; exact zI_1.mp c_8
        have hjc : (nI j).toNatClampNeg = j := nI_clamp (by have := hK.2.1; omega)
        have hK4 := hK.2.1
        obtain ⟨g, hg, rfl⟩ := inI_ix (by rw [← hK.1]; exact zI_1.mp c_19) (by have := hK.2.1; omega)
        have h2 : inI (nI g) 0 (nI nh - 1) = true := by rw [← hK.1]; exact zI_1.mp c_19
        have hgc : (nI g).toNatClampNeg = g := nI_clamp (by have := hK.2.1; omega)
        refine st_aload_n (q := 30) dX6_meet_29 rfl rfl rfl ?_
        refine sm_V0 (q := 33) (M' := mX6_copyOfNow) dX6_meet_30 rfl ok_X6_copyOfNow mk_X6_copyOfNow ml_X6_196 ⟨Nat.le_of_ble_eq_true rfl, Nat.le_of_ble_eq_true rfl⟩ rfl (Nat.le_of_ble_eq_true rfl) (g_rv hX.x rfl) ⟨rfl, rfl⟩ (c_X6_copyOfNow hX) ?_
        intro _ n w h9 _
        obtain ⟨rfl, rfl, hX, hQ, hF_⟩ := h9
        replace hF := Fr.tr hF (hF_.mono (by omega) (by omega))
        refine st_astore_n (q := 34) (L' := [_, _, _, _, _]) dX6_meet_33 rfl rfl (Nat.le_of_ble_eq_true rfl) rfl ?_
        refine st_iconst (q := 35) dX6_meet_34 rfl ic_0 ?_
        refine st_istore (q := 37) (L' := [_, _, _, _, _]) dX6_meet_35 rfl (Nat.le_of_ble_eq_true rfl) rfl ?_
        have lp : ∀ (k i : Nat), i + k = 61 → ∀ (w1 : ev_W), XI X Tn Ti Tp Sg Sh n w1 → Fr 0 70 w0 w1 → TR (dysT Tn dd nh nt i) 11 n w1 → srF (meetP Tn nh nt dd (nI j) (nI g)) i k = meetS Tn nh nt dd (nI j) (nI g) → Ev E mX6_meet 37 [some (.ref 0), some (.int (nI j)), some (.int (nI g)), some (.ref 11), some (.int (nI i))] [] n w1 (0, 0) (ev_xr (meetS Tn nh nt dd (nI j) (nI g)) n w0 (XI X Tn Ti Tp Sg Sh n)) := by
          clear hX hF hQ
          intro k
          induction k with
          | zero =>
            intro i hi w hX hF hQ hs
            obtain rfl : i = 61 := hi
            refine st_iload (q := 39) dX6_meet_37 rfl rfl ?_
            refine st_bipush (q := 41) dX6_meet_39 rfl bp_60 ?_
            refine st_icmp_gt (q := 44) (tgt := 89) dX6_meet_41 rfl rfl (fun c_41 => ?_) (fun c_41 => False.elim (c_41 (by decide)))
            refine st_bipush (q := 91) dX6_meet_89 rfl bp_m4 ?_
            refine st_ireturn dX6_meet_91 rfl ?_
            exact ⟨by rw [← hs]; rfl, rfl, hX, hF⟩
          | succ k ih =>
            intro i hi w hX hF hQ hs
            refine st_iload (q := 39) dX6_meet_37 rfl rfl ?_
            refine st_bipush (q := 41) dX6_meet_39 rfl bp_60 ?_
            refine st_icmp_gt (q := 44) (tgt := 89) dX6_meet_41 rfl rfl (fun c_41 => False.elim (absurd c_41 (nI_nlt (a := 60) (b := i) (by omega) (by omega)))) (fun c_41 => ?_)
            refine st_aload_n (q := 45) dX6_meet_44 rfl rfl rfl ?_
            refine st_iload_n (q := 46) dX6_meet_45 rfl rfl rfl ?_
            refine sp_V1 (q := 49) (M' := mX5_isAfloat) dX6_meet_46 rfl ok_X5_isAfloat mk_X5_isAfloat ml_X6_215 ⟨Nat.le_of_ble_eq_true rfl, Nat.le_of_ble_eq_true rfl⟩ rfl (Nat.le_of_ble_eq_true rfl) (g_rv hQ rfl) ⟨rfl, rfl⟩ (c_X5_isAfloat hQ) ?_
            refine st_if_eq (q := 52) (tgt := 78) dX6_meet_49 rfl rfl (fun c_49 => ?_) (fun c_49 => ?_)
            · refine st_aload_n (q := 79) dX6_meet_78 rfl rfl rfl ?_
              refine st_iconst (q := 80) dX6_meet_79 rfl ic_1 ?_
              refine sm_V1 (q := 83) (M' := mX5_passDays) dX6_meet_80 rfl ok_X5_passDays mk_X5_passDays ml_X6_189 ⟨Nat.le_of_ble_eq_true rfl, Nat.le_of_ble_eq_true rfl⟩ rfl (Nat.le_of_ble_eq_true rfl) (g_rv hQ rfl) ⟨rfl, rfl⟩ (c_X5_day1 hQ (by rw [dysT_6]; exact hK.2.2.1) hK.2.2.2.1 (by rw [dysT_0]; exact hK.1) hK.2.1 (dysT_16 hK.2.2.2.2.2.1 i) (by omega)) ?_
              intro _ n w h9 _
              obtain ⟨rfl, rfl, hQ, hF_⟩ := h9
              replace hX := hX.setTrial hQ hF_
              replace hF := Fr.tr hF (hF_.mono (by omega) (by omega))
              refine st_iinc (q := 86) (L' := [_, _, _, _, _]) dX6_meet_83 rfl rfl (nI_succ _).symm (Nat.le_of_ble_eq_true rfl) rfl ?_
              refine st_goto (q := 37) dX6_meet_86 rfl ?_
              refine ih (i + 1) (by omega) w hX hF hQ ?_
              rw [← hs, srF, if_neg (by rw [meetP, hjc, hgc]; simp_all [zI_0])]
            · refine st_aload_n (q := 53) dX6_meet_52 rfl rfl rfl ?_
              refine st_iload_n (q := 54) dX6_meet_53 rfl rfl rfl ?_
              refine sp_V1 (q := 57) (M' := mX5_isAfloat) dX6_meet_54 rfl ok_X5_isAfloat mk_X5_isAfloat ml_X6_215 ⟨Nat.le_of_ble_eq_true rfl, Nat.le_of_ble_eq_true rfl⟩ rfl (Nat.le_of_ble_eq_true rfl) (g_rv hQ rfl) ⟨rfl, rfl⟩ (c_X5_isAfloat hQ) ?_
              refine st_if_eq (q := 60) (tgt := 78) dX6_meet_57 rfl rfl (fun c_57 => ?_) (fun c_57 => ?_)
              · refine st_aload_n (q := 79) dX6_meet_78 rfl rfl rfl ?_
                refine st_iconst (q := 80) dX6_meet_79 rfl ic_1 ?_
                refine sm_V1 (q := 83) (M' := mX5_passDays) dX6_meet_80 rfl ok_X5_passDays mk_X5_passDays ml_X6_189 ⟨Nat.le_of_ble_eq_true rfl, Nat.le_of_ble_eq_true rfl⟩ rfl (Nat.le_of_ble_eq_true rfl) (g_rv hQ rfl) ⟨rfl, rfl⟩ (c_X5_day1 hQ (by rw [dysT_6]; exact hK.2.2.1) hK.2.2.2.1 (by rw [dysT_0]; exact hK.1) hK.2.1 (dysT_16 hK.2.2.2.2.2.1 i) (by omega)) ?_
                intro _ n w h9 _
                obtain ⟨rfl, rfl, hQ, hF_⟩ := h9
                replace hX := hX.setTrial hQ hF_
                replace hF := Fr.tr hF (hF_.mono (by omega) (by omega))
                refine st_iinc (q := 86) (L' := [_, _, _, _, _]) dX6_meet_83 rfl rfl (nI_succ _).symm (Nat.le_of_ble_eq_true rfl) rfl ?_
                refine st_goto (q := 37) dX6_meet_86 rfl ?_
                refine ih (i + 1) (by omega) w hX hF hQ ?_
                rw [← hs, srF, if_neg (by rw [meetP, hjc, hgc]; simp_all [zI_0])]
              · refine st_aload_n (q := 61) dX6_meet_60 rfl rfl rfl ?_
                refine g_getA (q := 64) dX6_meet_61 rfl fl_X6_206 hQ rfl ?_
                refine st_iload_n (q := 65) dX6_meet_64 rfl rfl rfl ?_
                refine g_iald (q := 66) dX6_meet_65 rfl gkX5 hQ (i := 4) rfl (by exact ev_ix_nI (j := j) (by omega) (by decide)) ?_
                refine st_aload_n (q := 67) dX6_meet_66 rfl rfl rfl ?_
                refine g_getA (q := 70) dX6_meet_67 rfl fl_X6_206 hQ rfl ?_
                refine st_iload_n (q := 71) dX6_meet_70 rfl rfl rfl ?_
                refine g_iald (q := 72) dX6_meet_71 rfl gkX5 hQ (i := 4) rfl (by exact ev_ix_nI (j := g) (by omega) (by decide)) ?_
                refine st_icmp_ne (q := 75) (tgt := 78) dX6_meet_72 rfl rfl (fun c_72 => ?_) (fun c_72 => ?_)
                · refine st_aload_n (q := 79) dX6_meet_78 rfl rfl rfl ?_
                  refine st_iconst (q := 80) dX6_meet_79 rfl ic_1 ?_
                  refine sm_V1 (q := 83) (M' := mX5_passDays) dX6_meet_80 rfl ok_X5_passDays mk_X5_passDays ml_X6_189 ⟨Nat.le_of_ble_eq_true rfl, Nat.le_of_ble_eq_true rfl⟩ rfl (Nat.le_of_ble_eq_true rfl) (g_rv hQ rfl) ⟨rfl, rfl⟩ (c_X5_day1 hQ (by rw [dysT_6]; exact hK.2.2.1) hK.2.2.2.1 (by rw [dysT_0]; exact hK.1) hK.2.1 (dysT_16 hK.2.2.2.2.2.1 i) (by omega)) ?_
                  intro _ n w h9 _
                  obtain ⟨rfl, rfl, hQ, hF_⟩ := h9
                  replace hX := hX.setTrial hQ hF_
                  replace hF := Fr.tr hF (hF_.mono (by omega) (by omega))
                  refine st_iinc (q := 86) (L' := [_, _, _, _, _]) dX6_meet_83 rfl rfl (nI_succ _).symm (Nat.le_of_ble_eq_true rfl) rfl ?_
                  refine st_goto (q := 37) dX6_meet_86 rfl ?_
                  refine ih (i + 1) (by omega) w hX hF hQ ?_
                  rw [← hs, srF, if_neg (by rw [meetP, hjc, hgc]; simp_all [zI_0])]
                · refine st_iload (q := 77) dX6_meet_75 rfl rfl ?_
                  refine st_ireturn dX6_meet_77 rfl ?_
                  exact ⟨by rw [← hs, srF, if_pos (by rw [meetP, hjc, hgc]; simp_all [zI_1])], rfl, hX, hF⟩
        exact lp 61 0 (by omega) w hX hF hQ (by rw [meetS, if_pos h1, if_pos h2, if_neg c_24])
      · refine st_iconst (q := 28) dX6_meet_27 rfl ic_m1 ?_
        refine st_ireturn dX6_meet_28 rfl ?_
        first
          | exact ⟨by rw [meetS, if_neg (by rw [← hK.1, zI_0.mp c_8]; decide)], rfl, hX, hF⟩
          | exact ⟨by rw [meetS, if_pos (by rw [← hK.1]; exact zI_1.mp c_8), if_neg (by rw [← hK.1, zI_0.mp c_19]; decide)], rfl, hX, hF⟩
          | exact ⟨by rw [meetS, if_pos (by rw [← hK.1]; exact zI_1.mp c_8), if_pos (by rw [← hK.1]; exact zI_1.mp c_19), if_pos c_24], rfl, hX, hF⟩
set_option maxRecDepth 100000 in
set_option maxHeartbeats 4000000 in
theorem c_X6_high {E : ev_E} {X Tn : gT} {Ti : Nat → gT} {Tp Sg : gT} {Sh : Nat → gT} {n : Nat} {w : ev_W} {w0 : ev_W} (hF : Fr 0 70 w0 w) (hX : XI X Tn Ti Tp Sg Sh n w) {nh nt dd : Nat} (hK : TK Tn nh nt dd) {x y : Int32} : Ct E mX6_high [.ref 0, .int x, .int y] n w (ev_xr (highS Tn nh nt dd x y) n w0 (XI X Tn Ti Tp Sg Sh n)) := by
  refine Ct.of 2 (by decide) (Nat.le_of_ble_eq_true rfl) rfl ?_
  have hd9 := hK.2.2.2.2.2.2
  refine st_aload_n (q := 1) dX6_high_0 rfl rfl rfl ?_
  refine g_getO (q := 4) dX6_high_1 rfl fl_X6_10.g hX.x rfl ?_
  refine st_iload_n (q := 5) dX6_high_4 rfl rfl rfl ?_
  refine sp_V1 (q := 8) (M' := mX5_isHouse) dX6_high_5 rfl ok_X5_isHouse mk_X5_isHouse ml_X6_122 ⟨Nat.le_of_ble_eq_true rfl, Nat.le_of_ble_eq_true rfl⟩ rfl (Nat.le_of_ble_eq_true rfl) (g_rv hX.now rfl) ⟨rfl, rfl⟩ (c_X5_isHouse hX.now) ?_
  refine st_if_eq (q := 11) (tgt := 18) dX6_high_8 rfl rfl (fun c_8 => ?_) (fun c_8 => ?_)
  · refine st_iconst (q := 19) dX6_high_18 rfl ic_m1 ?_
    refine st_ireturn dX6_high_19 rfl ?_
    first
      | exact ⟨by rw [highS, if_neg (by rw [← hK.1, zI_0.mp c_8]; decide)], rfl, hX, hF⟩
      | exact ⟨by rw [highS, if_pos (by rw [← hK.1]; exact zI_1.mp c_8), if_neg (by rw [zI_0.mp c_15]; decide)], rfl, hX, hF⟩
  · refine st_iload_n (q := 12) dX6_high_11 rfl rfl rfl ?_
    refine sp_S1 (q := 15) (M' := mX6_isAhead) dX6_high_12 rfl ok_X6_isAhead mk_X6_isAhead ml_X6_193 ⟨Nat.le_of_ble_eq_true rfl, Nat.le_of_ble_eq_true rfl⟩ rfl (Nat.le_of_ble_eq_true rfl) ⟨rfl, rfl⟩ (c_X6_isAhead) ?_
    refine st_if_ne (q := 18) (tgt := 20) dX6_high_15 rfl rfl (fun c_15 => ?_) (fun c_15 => ?_)
    · obtain ⟨j, hj, rfl⟩ := inI_ix (by rw [← hK.1]; exact zI_1.mp c_8) (by have := hK.2.1; omega)
      have h1 : inI (nI j) 0 (nI nh - 1) = true := by rw [← hK.1]; exact zI_1.mp c_8
      have hjc : (nI j).toNatClampNeg = j := nI_clamp (by have := hK.2.1; omega)
      have hK4 := hK.2.1
      obtain ⟨m, hm, rfl⟩ := inI_k (k := 60) (zI_1.mp c_15) (by decide)
      have h60 : inI (nI m) 0 60 = true := zI_1.mp c_15
      have hmc : (nI m).toNatClampNeg = m := nI_clamp (by omega)
      refine st_iconst (q := 21) dX6_high_20 rfl ic_0 ?_
      refine st_istore_n (q := 22) (L' := [_, _, _, _, _]) dX6_high_21 rfl rfl (Nat.le_of_ble_eq_true rfl) rfl ?_
      have lp : ∀ (k i : Nat), i + k = 21 → ∀ (w1 : ev_W) (lq : Option Value), XI X Tn Ti Tp Sg Sh n w1 → Fr 0 70 w0 w1 → srF (fun r => lnF (tup Tn 1 (nI j).toNatClampNeg (nI r)) (tkI Tn (nI j) nt) dd nh nt m) i k = highS Tn nh nt dd (nI j) (nI m) → Ev E mX6_high 22 [some (.ref 0), some (.int (nI j)), some (.int (nI m)), some (.int (nI i)), lq] [] n w1 (0, 0) (ev_xr (highS Tn nh nt dd (nI j) (nI m)) n w0 (XI X Tn Ti Tp Sg Sh n)) := by
        clear hX hF
        intro k
        induction k with
        | zero =>
          intro i hi w lq hX hF hs
          obtain rfl : i = 21 := hi
          refine st_iload_n (q := 23) dX6_high_22 rfl rfl rfl ?_
          refine st_bipush (q := 25) dX6_high_23 rfl bp_20 ?_
          refine st_icmp_gt (q := 28) (tgt := 60) dX6_high_25 rfl rfl (fun c_25 => ?_) (fun c_25 => False.elim (c_25 (by decide)))
          refine st_bipush (q := 62) dX6_high_60 rfl bp_m4 ?_
          refine st_ireturn dX6_high_62 rfl ?_
          exact ⟨by rw [← hs]; rfl, rfl, hX, hF⟩
        | succ k ih =>
          intro i hi w lq hX hF hs
          refine st_iload_n (q := 23) dX6_high_22 rfl rfl rfl ?_
          refine st_bipush (q := 25) dX6_high_23 rfl bp_20 ?_
          refine st_icmp_gt (q := 28) (tgt := 60) dX6_high_25 rfl rfl (fun c_25 => False.elim (absurd c_25 (nI_nlt (a := 20) (b := i) (by omega) (by omega)))) (fun c_25 => ?_)
          refine st_aload_n (q := 29) dX6_high_28 rfl rfl rfl ?_
          refine sm_V0 (q := 32) (M' := mX6_copyOfNow) dX6_high_29 rfl ok_X6_copyOfNow mk_X6_copyOfNow ml_X6_196 ⟨Nat.le_of_ble_eq_true rfl, Nat.le_of_ble_eq_true rfl⟩ rfl (Nat.le_of_ble_eq_true rfl) (g_rv hX.x rfl) ⟨rfl, rfl⟩ (c_X6_copyOfNow hX) ?_
          intro _ n w h9 _
          obtain ⟨rfl, rfl, hX, hQ, hF_⟩ := h9
          replace hF := Fr.tr hF (hF_.mono (by omega) (by omega))
          refine st_astore (q := 34) (L' := [_, _, _, _, _]) dX6_high_32 rfl (Nat.le_of_ble_eq_true rfl) rfl ?_
          refine st_aload (q := 36) dX6_high_34 rfl rfl ?_
          refine g_getA (q := 39) dX6_high_36 rfl fl_X6_231 hQ rfl ?_
          refine st_iload_n (q := 40) dX6_high_39 rfl rfl rfl ?_
          refine st_iload_n (q := 41) dX6_high_40 rfl rfl rfl ?_
          refine g_iast (q := 42) dX6_high_41 rfl gkX5 hQ (i := 1) rfl (by exact ev_ix_nI (j := j) (by omega) (by decide)) (fun w hQ hF_ => ?_)
          replace hX := hX.setTrial hQ hF_
          replace hF := Fr.tr hF (hF_.mono (by omega) (by omega))
          refine st_aload (q := 44) dX6_high_42 rfl rfl ?_
          refine st_iload_n (q := 45) dX6_high_44 rfl rfl rfl ?_
          refine st_iload_n (q := 46) dX6_high_45 rfl rfl rfl ?_
          refine sm_S3 (q := 49) (M' := mX6_losesNoneOf) dX6_high_46 rfl ok_X6_losesNoneOf mk_X6_losesNoneOf ml_X6_227 ⟨Nat.le_of_ble_eq_true rfl, Nat.le_of_ble_eq_true rfl⟩ rfl (Nat.le_of_ble_eq_true rfl) ⟨rfl, rfl⟩ (c_X6_losesNoneOf hQ (hK.tp (by decide) (by decide) (by decide) (by decide)) (by omega)) ?_
          intro _ n w h9 _
          obtain ⟨rfl, rfl, ⟨Tz, hQ⟩, hF_⟩ := h9
          replace hX := hX.setTrial hQ hF_
          replace hF := Fr.tr hF (hF_.mono (by omega) (by omega))
          refine st_if_eq (q := 52) (tgt := 54) dX6_high_49 rfl rfl (fun c_49 => ?_) (fun c_49 => ?_)
          · refine st_iinc (q := 57) (L' := [_, _, _, _, _]) dX6_high_54 rfl rfl (nI_succ _).symm (Nat.le_of_ble_eq_true rfl) rfl ?_
            refine st_goto (q := 22) dX6_high_57 rfl ?_
            refine ih (i + 1) (by omega) w _ hX hF ?_
            rw [← hs, srF, if_neg (by have z9 := zI_0.mp c_49; rw [tkI_c (U := tup Tn 1 j (nI i)) (T := Tn) rfl rfl] at z9; rw [hjc]; rw [z9]; decide)]
          · refine st_iload_n (q := 53) dX6_high_52 rfl rfl rfl ?_
            refine st_ireturn dX6_high_53 rfl ?_
            exact ⟨by rw [← hs, srF, if_pos (by have z9 := zI_1.mp c_49; rw [tkI_c (U := tup Tn 1 j (nI i)) (T := Tn) rfl rfl] at z9; rw [hjc]; exact z9)], rfl, hX, hF⟩
      exact lp 21 0 (by omega) w _ hX hF (by rw [highS, if_pos h1, if_pos h60, hmc])
    · refine st_iconst (q := 19) dX6_high_18 rfl ic_m1 ?_
      refine st_ireturn dX6_high_19 rfl ?_
      first
        | exact ⟨by rw [highS, if_neg (by rw [← hK.1, zI_0.mp c_8]; decide)], rfl, hX, hF⟩
        | exact ⟨by rw [highS, if_pos (by rw [← hK.1]; exact zI_1.mp c_8), if_neg (by rw [zI_0.mp c_15]; decide)], rfl, hX, hF⟩
set_option maxRecDepth 100000 in
set_option maxHeartbeats 4000000 in
theorem c_X6_need {E : ev_E} {X Tn : gT} {Ti : Nat → gT} {Tp Sg : gT} {Sh : Nat → gT} {n : Nat} {w : ev_W} {w0 : ev_W} (hF : Fr 0 70 w0 w) (hX : XI X Tn Ti Tp Sg Sh n w) {nh nt dd : Nat} (hK : TK Tn nh nt dd) {x y : Int32} : Ct E mX6_need [.ref 0, .int x, .int y] n w (ev_xr (needS Tn nh nt dd x y) n w0 (XI X Tn Ti Tp Sg Sh n)) := by
  refine Ct.of 2 (by decide) (Nat.le_of_ble_eq_true rfl) rfl ?_
  have hd9 := hK.2.2.2.2.2.2
  refine st_aload_n (q := 1) dX6_need_0 rfl rfl rfl ?_
  refine g_getO (q := 4) dX6_need_1 rfl fl_X6_10.g hX.x rfl ?_
  refine st_iload_n (q := 5) dX6_need_4 rfl rfl rfl ?_
  refine sp_V1 (q := 8) (M' := mX5_isHouse) dX6_need_5 rfl ok_X5_isHouse mk_X5_isHouse ml_X6_122 ⟨Nat.le_of_ble_eq_true rfl, Nat.le_of_ble_eq_true rfl⟩ rfl (Nat.le_of_ble_eq_true rfl) (g_rv hX.now rfl) ⟨rfl, rfl⟩ (c_X5_isHouse hX.now) ?_
  refine st_if_eq (q := 11) (tgt := 18) dX6_need_8 rfl rfl (fun c_8 => ?_) (fun c_8 => ?_)
  · refine st_iconst (q := 19) dX6_need_18 rfl ic_m1 ?_
    refine st_ireturn dX6_need_19 rfl ?_
    first
      | exact ⟨by rw [needS, if_neg (by rw [← hK.1, zI_0.mp c_8]; decide)], rfl, hX, hF⟩
      | exact ⟨by rw [needS, if_pos (by rw [← hK.1]; exact zI_1.mp c_8), if_neg (by rw [zI_0.mp c_15]; decide)], rfl, hX, hF⟩
  · refine st_iload_n (q := 12) dX6_need_11 rfl rfl rfl ?_
    refine sp_S1 (q := 15) (M' := mX6_isAhead) dX6_need_12 rfl ok_X6_isAhead mk_X6_isAhead ml_X6_193 ⟨Nat.le_of_ble_eq_true rfl, Nat.le_of_ble_eq_true rfl⟩ rfl (Nat.le_of_ble_eq_true rfl) ⟨rfl, rfl⟩ (c_X6_isAhead) ?_
    refine st_if_ne (q := 18) (tgt := 20) dX6_need_15 rfl rfl (fun c_15 => ?_) (fun c_15 => ?_)
    · obtain ⟨j, hj, rfl⟩ := inI_ix (by rw [← hK.1]; exact zI_1.mp c_8) (by have := hK.2.1; omega)
      have h1 : inI (nI j) 0 (nI nh - 1) = true := by rw [← hK.1]; exact zI_1.mp c_8
      have hjc : (nI j).toNatClampNeg = j := nI_clamp (by have := hK.2.1; omega)
      have hK4 := hK.2.1
      obtain ⟨m, hm, rfl⟩ := inI_k (k := 60) (zI_1.mp c_15) (by decide)
      have h60 : inI (nI m) 0 60 = true := zI_1.mp c_15
      have hmc : (nI m).toNatClampNeg = m := nI_clamp (by omega)
      refine st_iconst (q := 21) dX6_need_20 rfl ic_0 ?_
      refine st_istore_n (q := 22) (L' := [_, _, _, _, _]) dX6_need_21 rfl rfl (Nat.le_of_ble_eq_true rfl) rfl ?_
      have lp : ∀ (k i : Nat), i + k = 41 → ∀ (w1 : ev_W) (lq : Option Value), XI X Tn Ti Tp Sg Sh n w1 → Fr 0 70 w0 w1 → srF (fun r => lnF (needT Tn nt (nI j) r) (tkI Tn (nI j) nt) dd nh nt m) i k = needS Tn nh nt dd (nI j) (nI m) → Ev E mX6_need 22 [some (.ref 0), some (.int (nI j)), some (.int (nI m)), some (.int (nI i)), lq] [] n w1 (0, 0) (ev_xr (needS Tn nh nt dd (nI j) (nI m)) n w0 (XI X Tn Ti Tp Sg Sh n)) := by
        clear hX hF
        intro k
        induction k with
        | zero =>
          intro i hi w lq hX hF hs
          obtain rfl : i = 41 := hi
          refine st_iload_n (q := 23) dX6_need_22 rfl rfl rfl ?_
          refine st_bipush (q := 25) dX6_need_23 rfl bp_40 ?_
          refine st_icmp_gt (q := 28) (tgt := 84) dX6_need_25 rfl rfl (fun c_25 => ?_) (fun c_25 => False.elim (c_25 (by decide)))
          refine st_bipush (q := 86) dX6_need_84 rfl bp_m4 ?_
          refine st_ireturn dX6_need_86 rfl ?_
          exact ⟨by rw [← hs]; rfl, rfl, hX, hF⟩
        | succ k ih =>
          intro i hi w lq hX hF hs
          refine st_iload_n (q := 23) dX6_need_22 rfl rfl rfl ?_
          refine st_bipush (q := 25) dX6_need_23 rfl bp_40 ?_
          refine st_icmp_gt (q := 28) (tgt := 84) dX6_need_25 rfl rfl (fun c_25 => False.elim (absurd c_25 (nI_nlt (a := 40) (b := i) (by omega) (by omega)))) (fun c_25 => ?_)
          refine st_aload_n (q := 29) dX6_need_28 rfl rfl rfl ?_
          refine sm_V0 (q := 32) (M' := mX6_copyOfNow) dX6_need_29 rfl ok_X6_copyOfNow mk_X6_copyOfNow ml_X6_196 ⟨Nat.le_of_ble_eq_true rfl, Nat.le_of_ble_eq_true rfl⟩ rfl (Nat.le_of_ble_eq_true rfl) (g_rv hX.x rfl) ⟨rfl, rfl⟩ (c_X6_copyOfNow hX) ?_
          intro _ n w h9 _
          obtain ⟨rfl, rfl, hX, hQ, hF_⟩ := h9
          replace hF := Fr.tr hF (hF_.mono (by omega) (by omega))
          refine st_astore (q := 34) (L' := [_, _, _, _, _]) dX6_need_32 rfl (Nat.le_of_ble_eq_true rfl) rfl ?_
          refine st_aload (q := 36) dX6_need_34 rfl rfl ?_
          refine g_getA (q := 39) dX6_need_36 rfl fl_X6_209 hQ rfl ?_
          refine st_iload_n (q := 40) dX6_need_39 rfl rfl rfl ?_
          refine st_iload_n (q := 41) dX6_need_40 rfl rfl rfl ?_
          refine g_iast (q := 42) dX6_need_41 rfl gkX5 hQ (i := 2) rfl (by exact ev_ix_nI (j := j) (by omega) (by decide)) (fun w hQ hF_ => ?_)
          replace hX := hX.setTrial hQ hF_
          replace hF := Fr.tr hF (hF_.mono (by omega) (by omega))
          refine st_aload (q := 44) dX6_need_42 rfl rfl ?_
          refine st_dup (q := 45) dX6_need_44 rfl rfl ?_
          refine g_get (q := 48) dX6_need_45 rfl fl_X6_116.g hQ rfl ?_
          refine st_aload (q := 50) dX6_need_48 rfl rfl ?_
          refine st_iload_n (q := 51) dX6_need_50 rfl rfl rfl ?_
          refine sp_V1 (q := 54) (M' := mX5_thingsOf) dX6_need_51 rfl ok_X5_thingsOf mk_X5_thingsOf ml_X6_129 ⟨Nat.le_of_ble_eq_true rfl, Nat.le_of_ble_eq_true rfl⟩ rfl (Nat.le_of_ble_eq_true rfl) (g_rv hQ rfl) ⟨rfl, rfl⟩ (c_X5_thingsOf hQ hK.2.2.1 hK.2.2.2.1) ?_
          refine st_aload (q := 56) dX6_need_54 rfl rfl ?_
          refine g_get (q := 59) dX6_need_56 rfl fl_X6_119.g hQ rfl ?_
          refine st_iconst (q := 60) dX6_need_59 rfl ic_m1 ?_
          refine st_ixor (q := 61) dX6_need_60 rfl ?_
          refine st_iand (q := 62) dX6_need_61 rfl ?_
          refine st_ior (q := 63) dX6_need_62 rfl ?_
          refine g_put (q := 66) dX6_need_63 rfl fl_X6_116 gkX5 hQ rfl rfl rfl (fun w hQ hF_ => ?_)
          replace hX := hX.setTrial hQ hF_
          replace hF := Fr.tr hF (hF_.mono (by omega) (by omega))
          have e8 : tkI (tup Tn 2 j (nI i)) (nI j) nt = tkI Tn (nI j) nt := tkI_c rfl rfl
          replace hQ : TR (needT Tn nt (nI j) i) 11 n w := by rw [needT, hjc, ← e8]; exact hQ
          refine st_aload (q := 68) dX6_need_66 rfl rfl ?_
          refine st_iload_n (q := 69) dX6_need_68 rfl rfl rfl ?_
          refine st_iload_n (q := 70) dX6_need_69 rfl rfl rfl ?_
          refine sm_S3 (q := 73) (M' := mX6_losesNoneOf) dX6_need_70 rfl ok_X6_losesNoneOf mk_X6_losesNoneOf ml_X6_227 ⟨Nat.le_of_ble_eq_true rfl, Nat.le_of_ble_eq_true rfl⟩ rfl (Nat.le_of_ble_eq_true rfl) ⟨rfl, rfl⟩ (c_X6_losesNoneOf hQ ((hK.tp (by decide) (by decide) (by decide) (by decide)).tp (by decide) (by decide) (by decide) (by decide)) (by omega)) ?_
          intro _ n w h9 _
          obtain ⟨rfl, rfl, ⟨Tz, hQ⟩, hF_⟩ := h9
          replace hX := hX.setTrial hQ hF_
          replace hF := Fr.tr hF (hF_.mono (by omega) (by omega))
          refine st_if_eq (q := 76) (tgt := 78) dX6_need_73 rfl rfl (fun c_73 => ?_) (fun c_73 => ?_)
          · refine st_iinc (q := 81) (L' := [_, _, _, _, _]) dX6_need_78 rfl rfl (nI_succ _).symm (Nat.le_of_ble_eq_true rfl) rfl ?_
            refine st_goto (q := 22) dX6_need_81 rfl ?_
            refine ih (i + 1) (by omega) w _ hX hF ?_
            rw [← hs, srF, if_neg (by have z9 := zI_0.mp c_73; rw [tkI_c (U := needT Tn nt (nI j) i) (T := Tn) rfl rfl] at z9; rw [z9]; decide)]
          · refine st_iload_n (q := 77) dX6_need_76 rfl rfl rfl ?_
            refine st_ireturn dX6_need_77 rfl ?_
            exact ⟨by rw [← hs, srF, if_pos (by have z9 := zI_1.mp c_73; rw [tkI_c (U := needT Tn nt (nI j) i) (T := Tn) rfl rfl] at z9; exact z9)], rfl, hX, hF⟩
      exact lp 41 0 (by omega) w _ hX hF (by rw [needS, if_pos h1, if_pos h60, hmc])
    · refine st_iconst (q := 19) dX6_need_18 rfl ic_m1 ?_
      refine st_ireturn dX6_need_19 rfl ?_
      first
        | exact ⟨by rw [needS, if_neg (by rw [← hK.1, zI_0.mp c_8]; decide)], rfl, hX, hF⟩
        | exact ⟨by rw [needS, if_pos (by rw [← hK.1]; exact zI_1.mp c_8), if_neg (by rw [zI_0.mp c_15]; decide)], rfl, hX, hF⟩
