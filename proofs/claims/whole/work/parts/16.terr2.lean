theorem ev_ofWF {l : Launch} {y : MethodName} {ws ws' : List Cond} {rm : Room} {Pc : Array Value → State → Prop} {Qc : Array Value → State → Outcome → State → Prop} {mc ms : Nat} {free : Addr → Prop} {cc : ByteArray} {maxL : Nat} {ret : Option FieldType}
    (hy : plainFor y = true) (hw : ws = Cond.code y cc maxL ret :: ws')
    (body : ∀ p e s m args below meth c s₁, BodyLoose p l y (headSpec ws rm) cc maxL ret e s m args below meth c s₁ → c.maxLocals = maxL → Pc args s →
      W p l e (headSpec ws rm).room s m args below meth c s.heap [] 0 0 (MQ below Qc args s mc ms free) (entryFrame m args maxL)) : Met l y ws rm Pc Qc mc ms free := by
  refine MetFree.of_bodySF (code := cc) (maxLocals := maxL) (ret := ret) hy ?_ ?_
  · intro args s m h hn
    obtain ⟨meth, c, h1, h2, h3, h4, h5, h6, -, -⟩ := Cond.code_spec hn (atoms_spec (ws := ws) h _ (by rw [hw]; exact List.mem_cons_self))
    exact ⟨meth, c, h1, h2, h3, h4, h5, h6⟩
  · intro p e s m args below meth c s₁ B hml hP _
    have hh0 : s₁.heap = s.heap := by rw [B.state]; rfl
    obtain ⟨t, a1, o, b1, b2, b3⟩ := body p e s m args below meth c s₁ B hml hP s₁ hh0 (Stand.of_body B)
    exact ⟨t, o, a1, b1, b2, ⟨b3.1, b3.2⟩⟩
theorem Ct.ofF {E : ev_E} {M : ev_M} {as : List Value} {n : Nat} {w : ev_W} {Q : Option Value → Nat → ev_W → Prop} {L : List (Option Value)} (k : Nat) (hpl : plainFor (ev_y M) = true) (hlen : (lg_sl as).length ≤ ev_ml M) (hL : ev_e0 as ++ ev_pad k = L) (body : Ev E M 0 L [] n w (0, 0) Q) : Ct E M as n w Q := by
  intro ad sz
  refine ev_ofWF (cc := ev_cc M) (maxL := ev_ml M) (ret := ev_rt M) hpl rfl ?_
  intro p e s m args below meth c s₁ B hml hv
  obtain ⟨rfl, hsz, hP, hK, hD0, hH, hn, hww, hwk⟩ := hv
  subst hsz
  rw [lg_entry_eq]
  have hent := lv_entry (as.map (ev_cv ad)) (n := ev_ml M) (by rw [ev_sl_len]; exact hlen)
  have hlk : ∀ i v, ev_lk L i = some v → (i, v) ∈ lv_args 0 as := by
    intro i v h
    rw [← hL] at h
    have := ev_lk_e0 k as 0 i v h
    rwa [Nat.zero_add] at this
  refine body p e s m _ below meth c (va_A (ev_ws E.2.2.1 ad n w) s.heap.size) ad n ad s.heap [] _ ⟨B.exec, B.bytes, B.returns, hml, findClass_of_methodNamed B.named, atoms_spec (ws := ev_wds M) B.pre, B.notSynchronized, (name_of_methodNamed B.named B.method).1, hK, fun q h => Or.inr h, hH⟩ ⟨Nat.le_refl _, hn, fun _ _ => rfl, hww, hP, hD0.self, va_S.rf⟩ (fun i v h => hwk v (ev_args_mem as 0 i v (hlk i v h))) ev_wk_nil ⟨hent.1, hent.2.1, fun i v h => ?_⟩ (Nat.zero_le _) (Nat.zero_le _)
  refine hent.2.2 (i, ev_cv ad v) ?_
  rw [ev_args_map]
  exact List.mem_map.mpr ⟨(i, v), hlk i v h, rfl⟩
theorem fm_pos {a : Nat} (h : a < 2 ^ 31) : 0 ≤ nI a ^^^ 7 := by
  have e : nI a ^^^ 7 = nI (a ^^^ 7) := nx_xor a 7
  rw [e]
  exact nI_pos' (Nat.xor_lt_two_pow h (by decide))
set_option maxRecDepth 100000 in
set_option maxHeartbeats 4000000 in
theorem c_J9_floorMod_7cf53 {E : ev_E} {n : Nat} {w : ev_W} {a : Nat} (ha : a < 2 ^ 31) : Ct E mJ9_floorMod_7cf53 [.int (nI a), .int 7] n w (ev_is (some (.int (nI (a % 7)))) n w) := by
  refine Ct.ofF 1 (by decide +kernel) (Nat.le_of_ble_eq_true rfl) rfl ?_
  refine st_iload_n (q := 1) dJ9_floorMod_7cf53_0 rfl rfl rfl ?_
  refine st_iload_n (q := 2) dJ9_floorMod_7cf53_1 rfl rfl rfl ?_
  refine st_irem (q := 3) dJ9_floorMod_7cf53_2 rfl (by decide) ?_
  refine st_istore_n (q := 4) (L' := [_, _, _]) dJ9_floorMod_7cf53_3 rfl rfl (Nat.le_of_ble_eq_true rfl) rfl ?_
  refine st_iload_n (q := 5) dJ9_floorMod_7cf53_4 rfl rfl rfl ?_
  refine st_iload_n (q := 6) dJ9_floorMod_7cf53_5 rfl rfl rfl ?_
  refine st_ixor (q := 7) dJ9_floorMod_7cf53_6 rfl ?_
  refine st_if_ge (q := 10) (tgt := 18) dJ9_floorMod_7cf53_7 rfl rfl (fun c_7 => ?_) (fun c_7 => False.elim (c_7 (fm_pos ha)))
  refine st_iload_n (q := 19) dJ9_floorMod_7cf53_18 rfl rfl rfl ?_
  refine st_ireturn dJ9_floorMod_7cf53_19 rfl ?_
  exact ⟨congrArg (fun x => some (Value.int x)) (pk_rem (d := 7) ha (by decide) (by decide)), rfl, rfl⟩
set_option maxRecDepth 100000 in
set_option maxHeartbeats 4000000 in
theorem c_X5_riseToday {E : ev_E} {n : Nat} {w : ev_W} {T : gT} {b : Nat} (hT : TR T b n w) {dd : Nat} (ed : T 16 0 = nI dd) (hdd : dd < 2 ^ 31) : Ct E mX5_riseToday [.ref b] n w (ev_is (some (.int (T 13 (dd % 7)))) n w) := by
  refine Ct.of 0 (by decide) (Nat.le_of_ble_eq_true rfl) rfl ?_
  refine st_aload_n (q := 1) dX5_riseToday_0 rfl rfl rfl ?_
  refine g_getA (q := 4) dX5_riseToday_1 rfl fl_X5_36.g hT rfl ?_
  refine st_aload_n (q := 5) dX5_riseToday_4 rfl rfl rfl ?_
  refine g_get (q := 8) dX5_riseToday_5 rfl fl_X5_67.g hT rfl ?_
  refine st_bipush (q := 10) dX5_riseToday_8 rfl bp_7 ?_
  rw [ed]
  refine sp_S2 (q := 13) (M' := mJ9_floorMod_7cf53) dX5_riseToday_10 rfl ok_J9_floorMod_7cf53 mk_J9_floorMod_7cf53 ml_X5_125 ⟨Nat.le_of_ble_eq_true rfl, Nat.le_of_ble_eq_true rfl⟩ rfl (Nat.le_of_ble_eq_true rfl) ⟨rfl, rfl⟩ (c_J9_floorMod_7cf53 hdd) ?_
  refine g_iald (q := 14) dX5_riseToday_13 rfl gkX5 hT (i := 13) rfl (by exact ev_ix_nI (Nat.mod_lt _ (by decide)) (by decide)) ?_
  refine st_ireturn dX5_riseToday_14 rfl ?_
  exact ⟨rfl, rfl, rfl⟩
def dyT (T : gT) (dd nh nt : Nat) : gT := pdT T (T 13 (dd % 7)) (T 14 0) nh nt
def dysT (T : gT) (dd nh nt : Nat) : Nat → gT
  | 0 => T
  | i + 1 => dyT (dysT T dd nh nt i) (dd + i) nh nt
theorem pdT_16 {T : gT} {nh nt : Nat} {ri wd : Int32} : pdT T ri wd nh nt 16 0 = T 16 0 + 1 := by
  unfold pdT
  rw [tup_s, pk_us, phs_n (by decide) (by decide) (by decide) (by decide) (by decide) (by decide)]
  rfl
theorem dyT_n {T : gT} {dd nh nt g : Nat} (h0 : g ≠ 2) (h1 : g ≠ 11) (h2 : g ≠ 12) (h3 : g ≠ 17) (h4 : g ≠ 4) (h5 : g ≠ 5) (h6 : g ≠ 15) (h7 : g ≠ 16) : dyT T dd nh nt g = T g := pdT_n h0 h1 h2 h3 h4 h5 h6 h7
theorem dysT_n {T : gT} {dd nh nt g : Nat} (h0 : g ≠ 2) (h1 : g ≠ 11) (h2 : g ≠ 12) (h3 : g ≠ 17) (h4 : g ≠ 4) (h5 : g ≠ 5) (h6 : g ≠ 15) (h7 : g ≠ 16) : ∀ i, dysT T dd nh nt i g = T g
  | 0 => rfl
  | i + 1 => by rw [dysT, dyT_n h0 h1 h2 h3 h4 h5 h6 h7, dysT_n h0 h1 h2 h3 h4 h5 h6 h7 i]
theorem dysT_0 {T : gT} {dd nh nt : Nat} (i : Nat) : dysT T dd nh nt i 0 = T 0 := dysT_n (by decide) (by decide) (by decide) (by decide) (by decide) (by decide) (by decide) (by decide) i
theorem dysT_6 {T : gT} {dd nh nt : Nat} (i : Nat) : dysT T dd nh nt i 6 = T 6 := dysT_n (by decide) (by decide) (by decide) (by decide) (by decide) (by decide) (by decide) (by decide) i
theorem dysT_16 {T : gT} {dd nh nt : Nat} (e : T 16 0 = nI dd) : ∀ i, dysT T dd nh nt i 16 0 = nI (dd + i)
  | 0 => e
  | i + 1 => by rw [dysT, dyT, pdT_16, dysT_16 e i, ← nI_succ]; rfl
set_option maxRecDepth 100000 in
set_option maxHeartbeats 4000000 in
theorem c_X5_passDays {E : ev_E} {n : Nat} {w : ev_W} {T : gT} {b : Nat} (hT : TR T b n w) {nt : Nat} (e6 : T 6 0 = nI nt) (hnt : nt ≤ 8) {nh : Nat} (e0 : T 0 0 = nI nh) (hnh : nh ≤ 4) {dd : Nat} (ed : T 16 0 = nI dd)  {m : Nat} (hm : dd + m < 2 ^ 31) : Ct E mX5_passDays [.ref b, .int (nI m)] n w (ev_ch none n w b (b + 10) (TR (dysT T dd nh nt m) b n)) := by
  refine Ct.of 1 (by decide) (Nat.le_of_ble_eq_true rfl) rfl ?_
  have hF : Fr b (b + 10) w w := Fr.rf
  have lp : ∀ (k i : Nat), i + k = m → ∀ (w1 : ev_W), TR (dysT T dd nh nt i) b n w1 → Fr b (b + 10) w w1 → Ev E mX5_passDays 2 [some (.ref b), some (.int (nI m)), some (.int (nI i))] [] n w1 (0, 0) (ev_ch none n w b (b + 10) (TR (dysT T dd nh nt m) b n)) := by
    clear hF hT
    intro k
    induction k with
    | zero =>
      intro i hi w hT hF
      obtain rfl : i = m := hi
      refine st_iload_n (q := 3) dX5_passDays_2 rfl rfl rfl ?_
      refine st_iload_n (q := 4) dX5_passDays_3 rfl rfl rfl ?_
      refine st_icmp_ge (q := 7) (tgt := 25) dX5_passDays_4 rfl rfl (fun c_4 => ?_) (fun c_4 => False.elim (c_4 (nI_le (by omega) (by omega))))
      refine st_return dX5_passDays_25 rfl ?_
      exact ⟨rfl, rfl, hT, hF⟩
    | succ k ih =>
      intro i hi w hT hF
      refine st_iload_n (q := 3) dX5_passDays_2 rfl rfl rfl ?_
      refine st_iload_n (q := 4) dX5_passDays_3 rfl rfl rfl ?_
      refine st_icmp_ge (q := 7) (tgt := 25) dX5_passDays_4 rfl rfl (fun c_4 => False.elim (absurd c_4 (nI_ge (a := i) (b := m) (by omega) (by omega)))) (fun c_4 => ?_)
      refine st_aload_n (q := 8) dX5_passDays_7 rfl rfl rfl ?_
      refine st_aload_n (q := 9) dX5_passDays_8 rfl rfl rfl ?_
      refine sp_V0 (q := 12) (M' := mX5_riseToday) dX5_passDays_9 rfl ok_X5_riseToday mk_X5_riseToday ml_X5_128 ⟨Nat.le_of_ble_eq_true rfl, Nat.le_of_ble_eq_true rfl⟩ rfl (Nat.le_of_ble_eq_true rfl) (g_rv hT rfl) ⟨rfl, rfl⟩ (c_X5_riseToday hT (dysT_16 ed i) (by omega)) ?_
      refine st_aload_n (q := 13) dX5_passDays_12 rfl rfl rfl ?_
      refine g_get (q := 16) dX5_passDays_13 rfl fl_X5_45.g hT rfl ?_
      refine sm_V2 (q := 19) (M' := mX5_passDay) dX5_passDays_16 rfl ok_X5_passDay mk_X5_passDay ml_X5_132 ⟨Nat.le_of_ble_eq_true rfl, Nat.le_of_ble_eq_true rfl⟩ rfl (Nat.le_of_ble_eq_true rfl) (g_rv hT rfl) ⟨rfl, rfl⟩ (c_X5_passDay hT (by rw [dysT_6]; exact e6) hnt (by rw [dysT_0]; exact e0) hnh) ?_
      intro _ _ w h9 _
      obtain ⟨rfl, rfl, hT, hF_⟩ := h9
      replace hF := Fr.tr hF hF_
      refine st_iinc (q := 22) (L' := [_, _, _]) dX5_passDays_19 rfl rfl (nI_succ _).symm (Nat.le_of_ble_eq_true rfl) rfl ?_
      refine st_goto (q := 2) dX5_passDays_22 rfl ?_
      exact ih (i + 1) (by omega) w hT hF
  refine st_iconst (q := 1) dX5_passDays_0 rfl ic_0 ?_
  refine st_istore_n (q := 2) (L' := [_, _, _]) dX5_passDays_1 rfl rfl (Nat.le_of_ble_eq_true rfl) rfl ?_
  exact lp m 0 (by omega) w hT hF
theorem c_X5_day1 {E : ev_E} {n : Nat} {w : ev_W} {T : gT} {b : Nat} (hT : TR T b n w) {nt : Nat} (e6 : T 6 0 = nI nt) (hnt : nt ≤ 8) {nh : Nat} (e0 : T 0 0 = nI nh) (hnh : nh ≤ 4) {dd : Nat} (ed : T 16 0 = nI dd) (hdd : dd + 1 < 2 ^ 31) : Ct E mX5_passDays [.ref b, .int 1] n w (ev_ch none n w b (b + 10) (TR (dyT T dd nh nt) b n)) := c_X5_passDays hT e6 hnt e0 hnh ed (m := 1) hdd
def puT (T : gT) (x : Int32) (nt : Nat) : Int32 × gT :=
  if inI x 0 (nI nt - 1) = true then
    if whI T x = 0 then
      if btI (T 5 0) (T 8 x.toNatClampNeg) = true then (-2, T) else
      if 0 ≤ T 2 (T 8 x.toNatClampNeg).toNatClampNeg - fdT T (T 8 x.toNatClampNeg) nt - fillI (T 7 x.toNatClampNeg) (T 9 x.toNatClampNeg)
      then (T 2 (T 8 x.toNatClampNeg).toNatClampNeg - fdT T (T 8 x.toNatClampNeg) nt - fillI (T 7 x.toNatClampNeg) (T 9 x.toNatClampNeg), tup T 11 0 (T 11 0 ||| 1 <<< (x &&& 31)))
      else (-3, T)
    else (-2, T)
  else (-1, T)
def tkT (T : gT) (x : Int32) (nt : Nat) : Int32 × gT :=
  if inI x 0 (nI nt - 1) = true then
    if btI (T 11 0) x = true then
      if btI (T 5 0) (T 8 x.toNatClampNeg) = true then (-2, T) else
      let A := tup T 11 0 (T 11 0 &&& ((1 <<< (x &&& 31)) ^^^ (-1)))
      (if 0 < A 2 (T 8 x.toNatClampNeg).toNatClampNeg - fdT A (T 8 x.toNatClampNeg) nt then A 2 (T 8 x.toNatClampNeg).toNatClampNeg - fdT A (T 8 x.toNatClampNeg) nt else 0, A)
    else (-2, T)
  else (-1, T)
abbrev ev_rc (r : Int32 × gT) (n : Nat) (w : ev_W) (b : Nat) : Option Value → Nat → ev_W → Prop := fun a m u => a = some (.int r.1) ∧ m = n ∧ TR r.2 b n u ∧ Fr b (b + 10) w u
theorem ev_rc_of {r : Int32 × gT} {n : Nat} {w u : ev_W} {b : Nat} {v : Int32} {T : gT} (e : r = (v, T)) (hT : TR T b n u) (hF : Fr b (b + 10) w u) : ev_rc r n w b (some (.int v)) n u := by subst e; exact ⟨rfl, rfl, hT, hF⟩
set_option maxRecDepth 100000 in
set_option maxHeartbeats 4000000 in
theorem c_X5_putIn {E : ev_E} {n : Nat} {w : ev_W} {T : gT} {b : Nat} (hT : TR T b n w) {nt : Nat} (e6 : T 6 0 = nI nt) (hnt : nt ≤ 8) (hho : ∀ j, j < nt → vp_in (T 8 j) 4) {x : Int32} : Ct E mX5_putIn [.ref b, .int x] n w (ev_rc (puT T x nt) n w b) := by
  refine Ct.of 2 (by decide) (Nat.le_of_ble_eq_true rfl) rfl ?_
  have hF : Fr b (b + 10) w w := Fr.rf
  refine st_aload_n (q := 1) dX5_putIn_0 rfl rfl rfl ?_
  refine st_iload_n (q := 2) dX5_putIn_1 rfl rfl rfl ?_
  refine sp_V1 (q := 5) (M' := mX5_isThing) dX5_putIn_2 rfl ok_X5_isThing mk_X5_isThing ml_X5_110 ⟨Nat.le_of_ble_eq_true rfl, Nat.le_of_ble_eq_true rfl⟩ rfl (Nat.le_of_ble_eq_true rfl) (g_rv hT rfl) ⟨rfl, rfl⟩ (c_X5_isThing hT) ?_
  refine st_if_ne (q := 8) (tgt := 10) dX5_putIn_5 rfl rfl (fun c_5 => ?_) (fun c_5 => ?_)
  · obtain ⟨j, hj, rfl⟩ := inI_ix (by rw [← e6]; exact zI_1.mp c_5) (by omega)
    have h1 : inI (nI j) 0 (nI nt - 1) = true := by rw [← e6]; exact zI_1.mp c_5
    have hjc : (nI j).toNatClampNeg = j := nI_clamp (by omega)
    have hho := hho j hj
    refine st_aload_n (q := 11) dX5_putIn_10 rfl rfl rfl ?_
    refine g_getA (q := 14) dX5_putIn_11 rfl fl_X5_27.g hT rfl ?_
    refine st_iload_n (q := 15) dX5_putIn_14 rfl rfl rfl ?_
    refine g_iald (q := 16) dX5_putIn_15 rfl gkX5 hT (i := 8) rfl (by first | exact ev_ix_nI (j := j) (by omega) (by decide) | exact ⟨hho, rfl⟩) ?_
    refine st_istore_n (q := 17) (L' := [_, _, _, _]) dX5_putIn_16 rfl rfl (Nat.le_of_ble_eq_true rfl) rfl ?_
    refine st_aload_n (q := 18) dX5_putIn_17 rfl rfl rfl ?_
    refine st_iload_n (q := 19) dX5_putIn_18 rfl rfl rfl ?_
    refine sp_V1 (q := 22) (M' := mX5_whereIs) dX5_putIn_19 rfl ok_X5_whereIs mk_X5_whereIs ml_X5_113 ⟨Nat.le_of_ble_eq_true rfl, Nat.le_of_ble_eq_true rfl⟩ rfl (Nat.le_of_ble_eq_true rfl) (g_rv hT rfl) ⟨rfl, rfl⟩ (c_X5_whereIs hT) ?_
    refine st_if_ne (q := 25) (tgt := 33) dX5_putIn_22 rfl rfl (fun c_22 => ?_) (fun c_22 => ?_)
    · refine st_bipush (q := 35) dX5_putIn_33 rfl bp_m2 ?_
      refine st_ireturn dX5_putIn_35 rfl ?_
      first
        | exact ev_rc_of (by rw [puT, if_pos h1, if_neg c_22]) hT hF
        | exact ev_rc_of (by rw [puT, if_pos h1, if_pos c_22, hjc, if_pos (zI_1.mp c_30)]) hT hF
    · refine st_aload_n (q := 26) dX5_putIn_25 rfl rfl rfl ?_
      refine st_iload_n (q := 27) dX5_putIn_26 rfl rfl rfl ?_
      refine sp_V1 (q := 30) (M' := mX5_isAfloat) dX5_putIn_27 rfl ok_X5_isAfloat mk_X5_isAfloat ml_X5_116 ⟨Nat.le_of_ble_eq_true rfl, Nat.le_of_ble_eq_true rfl⟩ rfl (Nat.le_of_ble_eq_true rfl) (g_rv hT rfl) ⟨rfl, rfl⟩ (c_X5_isAfloat hT) ?_
      refine st_if_eq (q := 33) (tgt := 36) dX5_putIn_30 rfl rfl (fun c_30 => ?_) (fun c_30 => ?_)
      · refine st_aload_n (q := 37) dX5_putIn_36 rfl rfl rfl ?_
        refine g_getA (q := 40) dX5_putIn_37 rfl fl_X5_15.g hT rfl ?_
        refine st_iload_n (q := 41) dX5_putIn_40 rfl rfl rfl ?_
        refine g_iald (q := 42) dX5_putIn_41 rfl gkX5 hT (i := 2) rfl (by first | exact ev_ix_nI (j := j) (by omega) (by decide) | exact ⟨hho, rfl⟩) ?_
        refine st_aload_n (q := 43) dX5_putIn_42 rfl rfl rfl ?_
        refine st_iload_n (q := 44) dX5_putIn_43 rfl rfl rfl ?_
        refine sp_V1 (q := 47) (M' := mX5_filledOf) dX5_putIn_44 rfl ok_X5_filledOf mk_X5_filledOf ml_X5_119 ⟨Nat.le_of_ble_eq_true rfl, Nat.le_of_ble_eq_true rfl⟩ rfl (Nat.le_of_ble_eq_true rfl) (g_rv hT rfl) ⟨rfl, rfl⟩ (c_X5_filledOf hT e6 hnt) ?_
        refine st_isub (q := 48) dX5_putIn_47 rfl ?_
        refine st_aload_n (q := 49) dX5_putIn_48 rfl rfl rfl ?_
        refine st_iload_n (q := 50) dX5_putIn_49 rfl rfl rfl ?_
        refine sp_V1 (q := 53) (M' := mX5_fillOf) dX5_putIn_50 rfl ok_X5_fillOf mk_X5_fillOf ml_X5_103 ⟨Nat.le_of_ble_eq_true rfl, Nat.le_of_ble_eq_true rfl⟩ rfl (Nat.le_of_ble_eq_true rfl) (g_rv hT rfl) ⟨rfl, rfl⟩ (c_X5_fillOf hT (ev_ix_nI (j := j) (by omega) (by decide))) ?_
        refine st_isub (q := 54) dX5_putIn_53 rfl ?_
        refine st_istore_n (q := 55) (L' := [_, _, _, _]) dX5_putIn_54 rfl rfl (Nat.le_of_ble_eq_true rfl) rfl ?_
        refine st_iload_n (q := 56) dX5_putIn_55 rfl rfl rfl ?_
        refine st_if_ge (q := 59) (tgt := 62) dX5_putIn_56 rfl rfl (fun c_56 => ?_) (fun c_56 => ?_)
        · refine st_aload_n (q := 63) dX5_putIn_62 rfl rfl rfl ?_
          refine st_dup (q := 64) dX5_putIn_63 rfl rfl ?_
          refine g_get (q := 67) dX5_putIn_64 rfl fl_X5_58.g hT rfl ?_
          refine st_iconst (q := 68) dX5_putIn_67 rfl ic_1 ?_
          refine st_iload_n (q := 69) dX5_putIn_68 rfl rfl rfl ?_
          refine st_ishl (q := 70) dX5_putIn_69 rfl ?_
          refine st_ior (q := 71) dX5_putIn_70 rfl ?_
          refine g_put (q := 74) dX5_putIn_71 rfl fl_X5_58 gkX5 hT rfl rfl rfl (fun w hT hF_ => ?_)
          replace hF := Fr.tr hF hF_
          refine st_iload_n (q := 75) dX5_putIn_74 rfl rfl rfl ?_
          refine st_ireturn dX5_putIn_75 rfl ?_
          exact ev_rc_of (by rw [puT, if_pos h1, if_pos c_22, hjc, if_neg (by rw [zI_0.mp c_30]; decide), if_pos c_56]) hT hF
        · refine st_bipush (q := 61) dX5_putIn_59 rfl bp_m3 ?_
          refine st_ireturn dX5_putIn_61 rfl ?_
          exact ev_rc_of (by rw [puT, if_pos h1, if_pos c_22, hjc, if_neg (by rw [zI_0.mp c_30]; decide), if_neg c_56]) hT hF
      · refine st_bipush (q := 35) dX5_putIn_33 rfl bp_m2 ?_
        refine st_ireturn dX5_putIn_35 rfl ?_
        first
          | exact ev_rc_of (by rw [puT, if_pos h1, if_neg c_22]) hT hF
          | exact ev_rc_of (by rw [puT, if_pos h1, if_pos c_22, hjc, if_pos (zI_1.mp c_30)]) hT hF
  · refine st_iconst (q := 9) dX5_putIn_8 rfl ic_m1 ?_
    refine st_ireturn dX5_putIn_9 rfl ?_
    exact ev_rc_of (by rw [puT, if_neg (by rw [← e6, zI_0.mp c_5]; decide)]) hT hF
set_option maxRecDepth 100000 in
set_option maxHeartbeats 4000000 in
theorem c_X5_takeOut {E : ev_E} {n : Nat} {w : ev_W} {T : gT} {b : Nat} (hT : TR T b n w) {nt : Nat} (e6 : T 6 0 = nI nt) (hnt : nt ≤ 8) (hho : ∀ j, j < nt → vp_in (T 8 j) 4) {x : Int32} : Ct E mX5_takeOut [.ref b, .int x] n w (ev_rc (tkT T x nt) n w b) := by
  refine Ct.of 1 (by decide) (Nat.le_of_ble_eq_true rfl) rfl ?_
  have hF : Fr b (b + 10) w w := Fr.rf
  refine st_aload_n (q := 1) dX5_takeOut_0 rfl rfl rfl ?_
  refine st_iload_n (q := 2) dX5_takeOut_1 rfl rfl rfl ?_
  refine sp_V1 (q := 5) (M' := mX5_isThing) dX5_takeOut_2 rfl ok_X5_isThing mk_X5_isThing ml_X5_110 ⟨Nat.le_of_ble_eq_true rfl, Nat.le_of_ble_eq_true rfl⟩ rfl (Nat.le_of_ble_eq_true rfl) (g_rv hT rfl) ⟨rfl, rfl⟩ (c_X5_isThing hT) ?_
  refine st_if_ne (q := 8) (tgt := 10) dX5_takeOut_5 rfl rfl (fun c_5 => ?_) (fun c_5 => ?_)
  · obtain ⟨j, hj, rfl⟩ := inI_ix (by rw [← e6]; exact zI_1.mp c_5) (by omega)
    have h1 : inI (nI j) 0 (nI nt - 1) = true := by rw [← e6]; exact zI_1.mp c_5
    have hjc : (nI j).toNatClampNeg = j := nI_clamp (by omega)
    have hho := hho j hj
    refine st_aload_n (q := 11) dX5_takeOut_10 rfl rfl rfl ?_
    refine g_getA (q := 14) dX5_takeOut_11 rfl fl_X5_27.g hT rfl ?_
    refine st_iload_n (q := 15) dX5_takeOut_14 rfl rfl rfl ?_
    refine g_iald (q := 16) dX5_takeOut_15 rfl gkX5 hT (i := 8) rfl (by first | exact ev_ix_nI (j := j) (by omega) (by decide) | exact ⟨hho, rfl⟩) ?_
    refine st_istore_n (q := 17) (L' := [_, _, _]) dX5_takeOut_16 rfl rfl (Nat.le_of_ble_eq_true rfl) rfl ?_
    refine st_aload_n (q := 18) dX5_takeOut_17 rfl rfl rfl ?_
    refine st_iload_n (q := 19) dX5_takeOut_18 rfl rfl rfl ?_
    refine sp_V1 (q := 22) (M' := mX5_isIn) dX5_takeOut_19 rfl ok_X5_isIn mk_X5_isIn ml_X5_100 ⟨Nat.le_of_ble_eq_true rfl, Nat.le_of_ble_eq_true rfl⟩ rfl (Nat.le_of_ble_eq_true rfl) (g_rv hT rfl) ⟨rfl, rfl⟩ (c_X5_isIn hT) ?_
    refine st_if_eq (q := 25) (tgt := 33) dX5_takeOut_22 rfl rfl (fun c_22 => ?_) (fun c_22 => ?_)
    · refine st_bipush (q := 35) dX5_takeOut_33 rfl bp_m2 ?_
      refine st_ireturn dX5_takeOut_35 rfl ?_
      first
        | exact ev_rc_of (by rw [tkT, if_pos h1, if_neg (by rw [zI_0.mp c_22]; decide)]) hT hF
        | exact ev_rc_of (by rw [tkT, if_pos h1, if_pos (zI_1.mp c_22), hjc, if_pos (zI_1.mp c_30)]) hT hF
    · refine st_aload_n (q := 26) dX5_takeOut_25 rfl rfl rfl ?_
      refine st_iload_n (q := 27) dX5_takeOut_26 rfl rfl rfl ?_
      refine sp_V1 (q := 30) (M' := mX5_isAfloat) dX5_takeOut_27 rfl ok_X5_isAfloat mk_X5_isAfloat ml_X5_116 ⟨Nat.le_of_ble_eq_true rfl, Nat.le_of_ble_eq_true rfl⟩ rfl (Nat.le_of_ble_eq_true rfl) (g_rv hT rfl) ⟨rfl, rfl⟩ (c_X5_isAfloat hT) ?_
      refine st_if_eq (q := 33) (tgt := 36) dX5_takeOut_30 rfl rfl (fun c_30 => ?_) (fun c_30 => ?_)
      · refine st_aload_n (q := 37) dX5_takeOut_36 rfl rfl rfl ?_
        refine st_dup (q := 38) dX5_takeOut_37 rfl rfl ?_
        refine g_get (q := 41) dX5_takeOut_38 rfl fl_X5_58.g hT rfl ?_
        refine st_iconst (q := 42) dX5_takeOut_41 rfl ic_1 ?_
        refine st_iload_n (q := 43) dX5_takeOut_42 rfl rfl rfl ?_
        refine st_ishl (q := 44) dX5_takeOut_43 rfl ?_
        refine st_iconst (q := 45) dX5_takeOut_44 rfl ic_m1 ?_
        refine st_ixor (q := 46) dX5_takeOut_45 rfl ?_
        refine st_iand (q := 47) dX5_takeOut_46 rfl ?_
        refine g_put (q := 50) dX5_takeOut_47 rfl fl_X5_58 gkX5 hT rfl rfl rfl (fun w hT hF_ => ?_)
        replace hF := Fr.tr hF hF_
        refine st_iconst (q := 51) dX5_takeOut_50 rfl ic_0 ?_
        refine st_aload_n (q := 52) dX5_takeOut_51 rfl rfl rfl ?_
        refine g_getA (q := 55) dX5_takeOut_52 rfl fl_X5_15.g hT rfl ?_
        refine st_iload_n (q := 56) dX5_takeOut_55 rfl rfl rfl ?_
        refine g_iald (q := 57) dX5_takeOut_56 rfl gkX5 hT (i := 2) rfl (by first | exact ev_ix_nI (j := j) (by omega) (by decide) | exact ⟨hho, rfl⟩) ?_
        refine st_aload_n (q := 58) dX5_takeOut_57 rfl rfl rfl ?_
        refine st_iload_n (q := 59) dX5_takeOut_58 rfl rfl rfl ?_
        refine sp_V1 (q := 62) (M' := mX5_filledOf) dX5_takeOut_59 rfl ok_X5_filledOf mk_X5_filledOf ml_X5_119 ⟨Nat.le_of_ble_eq_true rfl, Nat.le_of_ble_eq_true rfl⟩ rfl (Nat.le_of_ble_eq_true rfl) (g_rv hT rfl) ⟨rfl, rfl⟩ (c_X5_filledOf hT e6 hnt) ?_
        refine st_isub (q := 63) dX5_takeOut_62 rfl ?_
        refine st_mmax (q := 66) dX5_takeOut_63 rfl ml_X5_122 jm_max_s jm_i jm_max_c (Nat.le_of_ble_eq_true rfl) (Nat.le_of_ble_eq_true rfl) (Nat.le_of_ble_eq_true rfl) ?_
        refine st_ireturn dX5_takeOut_66 rfl ?_
        exact ev_rc_of (by rw [tkT, if_pos h1, if_pos (zI_1.mp c_22), hjc, if_neg (by rw [zI_0.mp c_30]; decide)]) hT hF
      · refine st_bipush (q := 35) dX5_takeOut_33 rfl bp_m2 ?_
        refine st_ireturn dX5_takeOut_35 rfl ?_
        first
          | exact ev_rc_of (by rw [tkT, if_pos h1, if_neg (by rw [zI_0.mp c_22]; decide)]) hT hF
          | exact ev_rc_of (by rw [tkT, if_pos h1, if_pos (zI_1.mp c_22), hjc, if_pos (zI_1.mp c_30)]) hT hF
  · refine st_iconst (q := 9) dX5_takeOut_8 rfl ic_m1 ?_
    refine st_ireturn dX5_takeOut_9 rfl ?_
    exact ev_rc_of (by rw [tkT, if_neg (by rw [← e6, zI_0.mp c_5]; decide)]) hT hF
def mcT (T : gT) (i j : Nat) : Bool := !btI (T 12 0) (nI i) && (!btI (T 12 0) (nI j) && !decide (T 8 i = T 8 j))
set_option maxRecDepth 100000 in
set_option maxHeartbeats 4000000 in
theorem c_X5_mayChangeHomes {E : ev_E} {n : Nat} {w : ev_W} {T : gT} {b : Nat} (hT : TR T b n w) {i j : Nat} (hi : i < 8) (hj : j < 8) : Ct E mX5_mayChangeHomes [.ref b, .int (nI i), .int (nI j)] n w (ev_is (some (.int (zI (mcT T i j)))) n w) := by
  refine Ct.of 0 (by decide) (Nat.le_of_ble_eq_true rfl) rfl ?_
  refine st_aload_n (q := 1) dX5_mayChangeHomes_0 rfl rfl rfl ?_
  refine st_iload_n (q := 2) dX5_mayChangeHomes_1 rfl rfl rfl ?_
  refine sp_V1 (q := 5) (M' := mX5_isGone) dX5_mayChangeHomes_2 rfl ok_X5_isGone mk_X5_isGone ml_X5_97 ⟨Nat.le_of_ble_eq_true rfl, Nat.le_of_ble_eq_true rfl⟩ rfl (Nat.le_of_ble_eq_true rfl) (g_rv hT rfl) ⟨rfl, rfl⟩ (c_X5_isGone hT) ?_
  refine st_if_ne (q := 8) (tgt := 35) dX5_mayChangeHomes_5 rfl rfl (fun c_5 => ?_) (fun c_5 => ?_)
  · refine st_iconst (q := 36) dX5_mayChangeHomes_35 rfl ic_0 ?_
    refine st_nreturn dX5_mayChangeHomes_36 rfl (by rfl) ?_
    refine ⟨?_, rfl, rfl⟩
    simp_all [mcT, zI_0, zI]
  · refine st_aload_n (q := 9) dX5_mayChangeHomes_8 rfl rfl rfl ?_
    refine st_iload_n (q := 10) dX5_mayChangeHomes_9 rfl rfl rfl ?_
    refine sp_V1 (q := 13) (M' := mX5_isGone) dX5_mayChangeHomes_10 rfl ok_X5_isGone mk_X5_isGone ml_X5_97 ⟨Nat.le_of_ble_eq_true rfl, Nat.le_of_ble_eq_true rfl⟩ rfl (Nat.le_of_ble_eq_true rfl) (g_rv hT rfl) ⟨rfl, rfl⟩ (c_X5_isGone hT) ?_
    refine st_if_ne (q := 16) (tgt := 35) dX5_mayChangeHomes_13 rfl rfl (fun c_13 => ?_) (fun c_13 => ?_)
    · refine st_iconst (q := 36) dX5_mayChangeHomes_35 rfl ic_0 ?_
      refine st_nreturn dX5_mayChangeHomes_36 rfl (by rfl) ?_
      refine ⟨?_, rfl, rfl⟩
      simp_all [mcT, zI_0, zI]
    · refine st_aload_n (q := 17) dX5_mayChangeHomes_16 rfl rfl rfl ?_
      refine g_getA (q := 20) dX5_mayChangeHomes_17 rfl fl_X5_27.g hT rfl ?_
      refine st_iload_n (q := 21) dX5_mayChangeHomes_20 rfl rfl rfl ?_
      refine g_iald (q := 22) dX5_mayChangeHomes_21 rfl gkX5 hT (i := 8) rfl (by exact ev_ix_nI hi (by decide)) ?_
      refine st_aload_n (q := 23) dX5_mayChangeHomes_22 rfl rfl rfl ?_
      refine g_getA (q := 26) dX5_mayChangeHomes_23 rfl fl_X5_27.g hT rfl ?_
      refine st_iload_n (q := 27) dX5_mayChangeHomes_26 rfl rfl rfl ?_
      refine g_iald (q := 28) dX5_mayChangeHomes_27 rfl gkX5 hT (i := 8) rfl (by exact ev_ix_nI hj (by decide)) ?_
      refine st_icmp_eq (q := 31) (tgt := 35) dX5_mayChangeHomes_28 rfl rfl (fun c_28 => ?_) (fun c_28 => ?_)
      · refine st_iconst (q := 36) dX5_mayChangeHomes_35 rfl ic_0 ?_
        refine st_nreturn dX5_mayChangeHomes_36 rfl (by rfl) ?_
        refine ⟨?_, rfl, rfl⟩
        simp_all [mcT, zI_0, zI]
      · refine st_iconst (q := 32) dX5_mayChangeHomes_31 rfl ic_1 ?_
        refine st_goto (q := 36) dX5_mayChangeHomes_32 rfl ?_
        refine st_nreturn dX5_mayChangeHomes_36 rfl (by rfl) ?_
        refine ⟨?_, rfl, rfl⟩
        simp_all [mcT, zI_0, zI]
set_option maxRecDepth 100000 in
set_option maxHeartbeats 4000000 in
theorem c_X5_changeHomes {E : ev_E} {n : Nat} {w : ev_W} {T : gT} {b : Nat} (hT : TR T b n w) {i j : Nat} (hi : i < 8) (hj : j < 8) : Ct E mX5_changeHomes [.ref b, .int (nI i), .int (nI j)] n w (ev_ch none n w b (b + 10) (TR (tup (tup T 8 i (T 8 j)) 8 j (T 8 i)) b n)) := by
  refine Ct.of 1 (by decide) (Nat.le_of_ble_eq_true rfl) rfl ?_
  have hF : Fr b (b + 10) w w := Fr.rf
  refine st_aload_n (q := 1) dX5_changeHomes_0 rfl rfl rfl ?_
  refine g_getA (q := 4) dX5_changeHomes_1 rfl fl_X5_27.g hT rfl ?_
  refine st_iload_n (q := 5) dX5_changeHomes_4 rfl rfl rfl ?_
  refine g_iald (q := 6) dX5_changeHomes_5 rfl gkX5 hT (i := 8) rfl (by exact ev_ix_nI hi (by decide)) ?_
  refine st_istore_n (q := 7) (L' := [_, _, _, _]) dX5_changeHomes_6 rfl rfl (Nat.le_of_ble_eq_true rfl) rfl ?_
  refine st_aload_n (q := 8) dX5_changeHomes_7 rfl rfl rfl ?_
  refine g_getA (q := 11) dX5_changeHomes_8 rfl fl_X5_27.g hT rfl ?_
  refine st_iload_n (q := 12) dX5_changeHomes_11 rfl rfl rfl ?_
  refine st_aload_n (q := 13) dX5_changeHomes_12 rfl rfl rfl ?_
  refine g_getA (q := 16) dX5_changeHomes_13 rfl fl_X5_27.g hT rfl ?_
  refine st_iload_n (q := 17) dX5_changeHomes_16 rfl rfl rfl ?_
  refine g_iald (q := 18) dX5_changeHomes_17 rfl gkX5 hT (i := 8) rfl (by exact ev_ix_nI hj (by decide)) ?_
  refine g_iast (q := 19) dX5_changeHomes_18 rfl gkX5 hT (i := 8) rfl (by exact ev_ix_nI hi (by decide)) (fun w hT hF_ => ?_)
  replace hF := Fr.tr hF hF_
  refine st_aload_n (q := 20) dX5_changeHomes_19 rfl rfl rfl ?_
  refine g_getA (q := 23) dX5_changeHomes_20 rfl fl_X5_27.g hT rfl ?_
  refine st_iload_n (q := 24) dX5_changeHomes_23 rfl rfl rfl ?_
  refine st_iload_n (q := 25) dX5_changeHomes_24 rfl rfl rfl ?_
  refine g_iast (q := 26) dX5_changeHomes_25 rfl gkX5 hT (i := 8) rfl (by exact ev_ix_nI hj (by decide)) (fun w hT hF_ => ?_)
  replace hF := Fr.tr hF hF_
  refine st_return dX5_changeHomes_26 rfl ?_
  exact ⟨rfl, rfl, hT, hF⟩
set_option maxRecDepth 100000 in
set_option maxHeartbeats 4000000 in
theorem c_X5_copyRow {E : ev_E} {n : Nat} {w : ev_W} {k0 k1 m : Nat} {f g : Nat → Int32} (h0 : k0 < n) (h1 : k1 < n) (w0 : w k0 = aI m f) (w1 : w k1 = aI m g) (hm : m < 100) : Ct E mX5_copyRow [.ref k0, .ref k1] n w (ev_is none n (ev_up w k1 (aI m (va_cpy f g 0 0 m)))) := by
  refine Ct.of 0 (by decide) (Nat.le_of_ble_eq_true rfl) rfl ?_
  refine st_aload_n (q := 1) dX5_copyRow_0 rfl rfl rfl ?_
  refine st_iconst (q := 2) dX5_copyRow_1 rfl ic_0 ?_
  refine st_aload_n (q := 3) dX5_copyRow_2 rfl rfl rfl ?_
  refine st_iconst (q := 4) dX5_copyRow_3 rfl ic_0 ?_
  refine st_aload_n (q := 5) dX5_copyRow_4 rfl rfl rfl ?_
  refine st_alen (q := 6) dX5_copyRow_5 rfl h0 w0 rfl rfl ?_
  refine st_aload_n (q := 7) dX5_copyRow_6 rfl rfl rfl ?_
  refine st_alen (q := 8) dX5_copyRow_7 rfl h1 w1 rfl rfl ?_
  refine st_mmin (q := 11) dX5_copyRow_8 rfl ml_X5_77 jm_min_s jm_i jm_min_c (Nat.le_of_ble_eq_true rfl) (Nat.le_of_ble_eq_true rfl) (Nat.le_of_ble_eq_true rfl) ?_
  rw [ite_self]
  refine st_copy (q := 14) (a := 0) (b := 0) (z := m) dX5_copyRow_11 rfl ml_X5_83 jc_n jc_s jc_i h0 w0 h1 w1 (by decide) (by decide) (nI_pos (n := m) (by omega)) rfl rfl (nI_clamp (by omega)) (by omega) (by omega) (Nat.le_of_ble_eq_true rfl) (Nat.le_of_ble_eq_true rfl) (Nat.le_of_ble_eq_true rfl) ?_
  refine st_return dX5_copyRow_14 rfl ?_
  exact ⟨rfl, rfl, rfl⟩
