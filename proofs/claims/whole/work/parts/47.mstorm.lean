theorem rem_int (x y : Int64) : (x - x / y * y).toInt = x.toInt.tmod y.toInt := by
  rw [Int64.toInt_sub, Int64.toInt_mul, Int64.toInt_div, Int.sub_bmod_bmod, Int.tmod_def]
  have h1 := x.toInt_lt
  have h2 := x.le_toInt
  have e : (x.toInt - x.toInt.tdiv y.toInt * y.toInt) = x.toInt.tmod y.toInt := by rw [Int.tmod_def, Int.mul_comm]
  have e2 : (x.toInt - (x.toInt.tdiv y.toInt).bmod (2 ^ 64) * y.toInt).bmod (2 ^ 64) = (x.toInt - x.toInt.tdiv y.toInt * y.toInt).bmod (2 ^ 64) := by
    rw [← Int.sub_bmod_bmod, Int.bmod_mul_bmod, Int.sub_bmod_bmod]
  rw [e2, e]
  have hb : (x.toInt.tmod y.toInt).natAbs ≤ x.toInt.natAbs := by
    rw [Int.natAbs_tmod]; exact Nat.mod_le _ _
  rw [← Int.tmod_def]
  rcases Int.le_total 0 x.toInt with hx | hx
  · have := Int.tmod_nonneg y.toInt hx
    exact Int.bmod_eq_of_le (by omega) (by omega)
  · have := Int.tmod_nonneg (a := -x.toInt) y.toInt (by omega)
    rw [Int.neg_tmod] at this
    exact Int.bmod_eq_of_le (by omega) (by omega)
theorem rem_abs (x y : Int64) : (x - x / y * y).toInt.natAbs = x.toInt.natAbs % y.toInt.natAbs := by rw [rem_int, Int.natAbs_tmod]
def En (a b : Int64) : Nat → Prop
  | 0 => b = 0
  | k + 1 => b = 0 ∨ En b (a - a / b * b) k
theorem i64_0 {b : Int64} (h : b.toInt.natAbs = 0) : b = 0 := Int64.toInt_inj.mp (by have : (0 : Int64).toInt = 0 := by decide
                                                                                     omega)
theorem En_of : ∀ (k : Nat) (a b : Int64), b.toInt.natAbs < 2 ^ k → En a b (2 * k)
  | 0, a, b, h => i64_0 (by simpa using h)
  | k + 1, a, b, h => by
    show b = 0 ∨ ((a - a / b * b) = 0 ∨ En (a - a / b * b) (b - b / (a - a / b * b) * (a - a / b * b)) (2 * k))
    by_cases hb : b = 0
    · exact Or.inl hb
    · refine Or.inr ?_
      have e1 := rem_abs a b
      have e2 := rem_abs b (a - a / b * b)
      generalize a - a / b * b = r at *
      by_cases hr : r = 0
      · exact Or.inl hr
      · refine Or.inr (En_of k r _ ?_)
        have b0 : 0 < b.toInt.natAbs := Nat.pos_of_ne_zero (fun z => hb (i64_0 z))
        have r0 : 0 < r.toInt.natAbs := Nat.pos_of_ne_zero (fun z => hr (i64_0 z))
        rw [e2]
        have h3 : r.toInt.natAbs < b.toInt.natAbs := by rw [e1]; exact Nat.mod_lt _ b0
        have h4 := Nat.mod_lt b.toInt.natAbs r0
        have h5 : b.toInt.natAbs % r.toInt.natAbs ≤ b.toInt.natAbs - r.toInt.natAbs := by
          rw [Nat.mod_eq_sub_mod (by omega)]; exact Nat.mod_le _ _
        rw [Nat.pow_succ] at h
        omega
theorem cdF_ne : ∀ (k : Nat) (a b : Int64), En a b k → (¬ a = 0 ∨ ¬ b = 0) → ¬ cdF a b k = 0
  | 0, a, b, h, h0 => by
    rw [cdF]
    exact h0.elim id (fun z => absurd h z)
  | k + 1, a, b, h, h0 => by
    rw [cdF]
    by_cases hb : b = 0
    · rw [if_pos hb]; exact h0.elim id (fun z => absurd hb z)
    · rw [if_neg hb]; exact cdF_ne k b _ (h.resolve_left hb) (Or.inl hb)
theorem p10_tab : ∀ m, m < 9 → (pwL 10 m).toInt.natAbs < 2 ^ 50 ∧ ¬ pwL 10 m = 0 := by decide +kernel
set_option maxRecDepth 100000 in
set_option maxHeartbeats 4000000 in
theorem c_X7_lowest {E : ev_E} {n : Nat} {w : ev_W} {up down : Int64} {y : Int32} (hE : En up down 100) (hd : ¬ down = 0) : Ct E mX7_lowest [.long up, .long down, .int y] n w (ev_is (some (.long ((if y = 0 then up else down) / cdF up down 100))) n w) := by
  refine Ct.of 6 (by decide) (Nat.le_of_ble_eq_true rfl) rfl ?_
  have lp : ∀ (k : Nat) (a b : Int64) (la : Option Value), En a b k → cdF a b k = cdF up down 100 → (¬ a = 0 ∨ ¬ b = 0) → Ev E mX7_lowest 6 [some (.long up), none, some (.long down), none, some (.int y), some (.long a), none, some (.long b), none, la, none] [] n w (0, 0) (ev_is (some (.long ((if y = 0 then up else down) / cdF up down 100))) n w) := by
    intro k
    induction k with
    | zero =>
      intro a b la hE hC h0
      refine st_lload (q := 8) dX7_lowest_6 rfl rfl ?_
      refine st_lconst (q := 9) dX7_lowest_8 rfl lc_0 ?_
      refine st_lcmp (q := 10) dX7_lowest_9 rfl ?_
      refine st_if_eq (q := 13) (tgt := 31) dX7_lowest_10 rfl rfl (fun c_10 => ?_) (fun c_10 => False.elim (c_10 ((lg_cmp_eq _ _).mpr hE)))
      have hne9 : ¬ a = 0 := h0.elim id (fun z => absurd hE z)
      have hc9 : a = cdF up down 100 := hC
      refine st_iload (q := 33) dX7_lowest_31 rfl rfl ?_
      refine st_if_ne (q := 36) (tgt := 40) dX7_lowest_33 rfl rfl (fun c_33 => ?_) (fun c_33 => ?_)
      · refine st_lload_n (q := 41) dX7_lowest_40 rfl rfl rfl ?_
        refine st_lload (q := 43) dX7_lowest_41 rfl rfl ?_
        refine st_ldiv (q := 44) dX7_lowest_43 rfl (hne9) ?_
        refine st_lreturn dX7_lowest_44 rfl ?_
        rw [hc9]
        first
          | exact ⟨by rw [if_pos c_33], rfl, rfl⟩
          | exact ⟨by rw [if_neg c_33], rfl, rfl⟩
      · refine st_lload_n (q := 37) dX7_lowest_36 rfl rfl rfl ?_
        refine st_goto (q := 41) dX7_lowest_37 rfl ?_
        refine st_lload (q := 43) dX7_lowest_41 rfl rfl ?_
        refine st_ldiv (q := 44) dX7_lowest_43 rfl (hne9) ?_
        refine st_lreturn dX7_lowest_44 rfl ?_
        rw [hc9]
        first
          | exact ⟨by rw [if_pos c_33], rfl, rfl⟩
          | exact ⟨by rw [if_neg c_33], rfl, rfl⟩
    | succ k ih =>
      intro a b la hE hC h0
      refine st_lload (q := 8) dX7_lowest_6 rfl rfl ?_
      refine st_lconst (q := 9) dX7_lowest_8 rfl lc_0 ?_
      refine st_lcmp (q := 10) dX7_lowest_9 rfl ?_
      refine st_if_eq (q := 13) (tgt := 31) dX7_lowest_10 rfl rfl (fun c_10 => ?_) (fun c_10 => ?_)
      · have hb0 : b = 0 := (lg_cmp_eq _ _).mp c_10
        have hne9 : ¬ a = 0 := h0.elim id (fun z => absurd hb0 z)
        have hc9 : a = cdF up down 100 := by rw [← hC, cdF, if_pos hb0]
        refine st_iload (q := 33) dX7_lowest_31 rfl rfl ?_
        refine st_if_ne (q := 36) (tgt := 40) dX7_lowest_33 rfl rfl (fun c_33 => ?_) (fun c_33 => ?_)
        · refine st_lload_n (q := 41) dX7_lowest_40 rfl rfl rfl ?_
          refine st_lload (q := 43) dX7_lowest_41 rfl rfl ?_
          refine st_ldiv (q := 44) dX7_lowest_43 rfl (hne9) ?_
          refine st_lreturn dX7_lowest_44 rfl ?_
          rw [hc9]
          first
            | exact ⟨by rw [if_pos c_33], rfl, rfl⟩
            | exact ⟨by rw [if_neg c_33], rfl, rfl⟩
        · refine st_lload_n (q := 37) dX7_lowest_36 rfl rfl rfl ?_
          refine st_goto (q := 41) dX7_lowest_37 rfl ?_
          refine st_lload (q := 43) dX7_lowest_41 rfl rfl ?_
          refine st_ldiv (q := 44) dX7_lowest_43 rfl (hne9) ?_
          refine st_lreturn dX7_lowest_44 rfl ?_
          rw [hc9]
          first
            | exact ⟨by rw [if_pos c_33], rfl, rfl⟩
            | exact ⟨by rw [if_neg c_33], rfl, rfl⟩
      · refine st_lload (q := 15) dX7_lowest_13 rfl rfl ?_
        refine st_lload (q := 17) dX7_lowest_15 rfl rfl ?_
        refine st_lrem (q := 18) dX7_lowest_17 rfl (fun z => c_10 ((lg_cmp_eq _ _).mpr z)) ?_
        refine st_lstore (q := 20) (L' := [_, _, _, _, _, _, _, _, _, _, _]) dX7_lowest_18 rfl (Nat.le_of_ble_eq_true rfl) rfl ?_
        refine st_lload (q := 22) dX7_lowest_20 rfl rfl ?_
        refine st_lstore (q := 24) (L' := [_, _, _, _, _, _, _, _, _, _, _]) dX7_lowest_22 rfl (Nat.le_of_ble_eq_true rfl) rfl ?_
        refine st_lload (q := 26) dX7_lowest_24 rfl rfl ?_
        refine st_lstore (q := 28) (L' := [_, _, _, _, _, _, _, _, _, _, _]) dX7_lowest_26 rfl (Nat.le_of_ble_eq_true rfl) rfl ?_
        refine st_goto (q := 6) dX7_lowest_28 rfl ?_
        have hb0 : ¬ b = 0 := fun z => c_10 ((lg_cmp_eq _ _).mpr z)
        exact ih _ _ _ (hE.resolve_left hb0) (by rw [← hC, cdF, if_neg hb0]) (Or.inl hb0)
  refine st_lload_n (q := 1) dX7_lowest_0 rfl rfl rfl ?_
  refine st_lstore (q := 3) (L' := [_, _, _, _, _, _, _, _, _, _, _]) dX7_lowest_1 rfl (Nat.le_of_ble_eq_true rfl) rfl ?_
  refine st_lload_n (q := 4) dX7_lowest_3 rfl rfl rfl ?_
  refine st_lstore (q := 6) (L' := [_, _, _, _, _, _, _, _, _, _, _]) dX7_lowest_4 rfl (Nat.le_of_ble_eq_true rfl) rfl ?_
  exact lp 100 up down _ hE rfl (Or.inr hd)
theorem RQ.dayx {T : gT} {f : Nat → Int32} {p nh nt dd : Nat} {x ri : Int32} (h : RQ T f p nh nt dd) (hx : x = ri + 4) : RQ (pdT T x (T 14 0) nh nt) (dayM f p ri nh nt) p nh nt (dd + 1) := by
  have hnh := h.1.hnh
  have hnt := h.1.hnt
  refine ⟨h.1.day hx h.2.1, ?_, ?_, ?_⟩
  · rw [pdT_n (by decide) (by decide) (by decide) (by decide) (by decide) (by decide) (by decide) (by decide), RP.w67 hnh hnt]; exact h.2.1
  · rw [pdT_n (by decide) (by decide) (by decide) (by decide) (by decide) (by decide) (by decide) (by decide)]; exact h.2.2.1
  · rw [pdT_16, h.2.2.2, ← nI_succ]
theorem c_dayX {E : ev_E} {n : Nat} {w : ev_W} {S : gT} {f : Nat → Int32} (hM : MR S f 70 n w) {T : gT} {nh nt dd : Nat} (hG : GQ S f T nh nt dd) {U : gT} {d : Nat} (hR : RQ U f 284 nh nt d) {x ri : Int32} (hx : x = ri + 4) : Ct E mX7_dayOn [.ref 70, .int (nI 284), .int ri] n w (fun a u v => ∃ f', a = none ∧ u = n ∧ MR S f' 70 n v ∧ QA S S f f' ∧ RQ (pdT U x (U 14 0) nh nt) f' 284 nh nt (d + 1) ∧ Fr 70 82 w v) := by
  refine (c_X7_dayOn hM (p := 284) (by decide) hG.2.2.1 hR.1.hnt hG.2.1 hR.1.hnh).mono (fun a u v h9 => ?_)
  obtain ⟨ha, hu, hMv, hFv⟩ := h9
  exact ⟨_, ha, hu, hMv, ⟨fun j hj => dayM_n hR.1.hnh hR.1.hnt (by unfold inD; omega), fun _ _ _ => rfl⟩, hR.dayx hx, hFv⟩
def odM (s : Nat) (v : Int32) : Nat → Int64
  | 0 => 1
  | k + 1 => odM s v k * (if (nI s >>> (nI k &&& 31)) &&& 1 = 1 then v.toInt64 else (10 - v).toInt64)
theorem sb_tab : ∀ k, k < 8 → ∀ s, s < 256 → ((nI s >>> (nI k &&& 31)) &&& 1 = 1 ↔ (s >>> k) % 2 = 1) := by decide +kernel
theorem od_wg {s : Nat} (hs : s < 256) {v : Int32} : ∀ k, k ≤ 8 → odM s v k = pwL v (cntN s k) * pwL (10 - v) (k - cntN s k)
  | 0, _ => by rw [odM]; rfl
  | k + 1, hk => by
    have h1 := cntN_le s k
    rw [odM, od_wg hs k (by omega), cntN]
    rcases Nat.mod_two_eq_zero_or_one (s >>> k) with z | z
    · rw [if_neg (fun q => by have := (sb_tab k (by omega) s hs).mp q; omega), z, Nat.add_zero, show k + 1 - cntN s k = k - cntN s k + 1 from by omega, pwL, Int64.mul_assoc]
    · rw [if_pos ((sb_tab k (by omega) s hs).mpr z), z, show k + 1 - (cntN s k + 1) = k - cntN s k from by omega, show pwL v (cntN s k + 1) = pwL v (cntN s k) * v.toInt64 from rfl, Int64.mul_assoc, Int64.mul_comm (pwL (10 - v) (k - cntN s k)), ← Int64.mul_assoc]
def vlM (T : gT) (dd nh nt m : Nat) (x : Int32) (s : Nat) : Int32 := if x = -4 then stT T dd nh nt (nI s) m 17 0 - T 17 0 else if btI (stT T dd nh nt (nI s) m 12 0) x = true then 0 else 1
def upM (T : gT) (dd nh nt m : Nat) (v x : Int32) : Nat → Int64
  | 0 => 0
  | s + 1 => upM T dd nh nt m v x s + wgL s v m * (vlM T dd nh nt m x s).toInt64
set_option maxRecDepth 100000 in
set_option maxHeartbeats 4000000 in
theorem c_X7_byStorm {E : ev_E} {n : Nat} {w : ev_W} {S0 S : gT} {f0 f : Nat → Int32} {w0 : ev_W} (hF : Fr 70 82 w0 w) (hM : MR S f 70 n w) (hA : QA S0 S f0 f) {T : gT} {nh nt dd : Nat} (hG : GQ S f T nh nt dd) {v x y : Int32} {m : Nat} (hm : m ≤ 8) (hx : x = -4 ∨ ∃ j, j < nt ∧ x = nI j) : Ct E mX7_byStorm [.ref 70, .int v, .int x, .int (nI m), .int y] n w (fun a9 n9 w9 => a9 = some (.long ((if y = 0 then upM T dd nh nt m v x (2 ^ m) else pwL 10 m) / cdF (upM T dd nh nt m v x (2 ^ m)) (pwL 10 m) 100)) ∧ n9 = n ∧ QR S0 f0 n w9 ∧ Fr 70 82 w0 w9) := by
  refine Ct.of 9 (by decide) (Nat.le_of_ble_eq_true rfl) rfl ?_
  have hd9 := hG.2.2.2
  have hN8 := hG.1.1.hnt
  have hp2 := p2_le m (by omega)
  have lp : ∀ (k s : Nat), s + k = 2 ^ m → ∀ (w1 : ev_W) (S1 : gT) (f1 : Nat → Int32) (l10 l12 l13 : Option Value), MR S1 f1 70 n w1 → QA S0 S1 f0 f1 → GQ S1 f1 T nh nt dd → Fr 70 82 w0 w1 → Ev E mX7_byStorm 32 [some (.ref 70), some (.int v), some (.int x), some (.int (nI m)), some (.int y), some (.long (upM T dd nh nt m v x s)), none, some (.long (pwL 10 m)), none, some (.int (nI s)), l10, none, l12, l13] [] n w1 (0, 0) (fun a9 n9 w9 => a9 = some (.long ((if y = 0 then upM T dd nh nt m v x (2 ^ m) else pwL 10 m) / cdF (upM T dd nh nt m v x (2 ^ m)) (pwL 10 m) 100)) ∧ n9 = n ∧ QR S0 f0 n w9 ∧ Fr 70 82 w0 w9) := by
    clear hM hA hG hF
    intro k
    induction k with
    | zero =>
      intro s hi w S f l10 l12 l13 hM hA hG hF 
      obtain rfl : 2 ^ m = s := by omega
      refine st_iload (q := 34) dX7_byStorm_32 rfl rfl ?_
      refine st_iconst (q := 35) dX7_byStorm_34 rfl ic_1 ?_
      refine st_iload_n (q := 36) dX7_byStorm_35 rfl rfl rfl ?_
      refine st_ishl (q := 37) dX7_byStorm_36 rfl ?_
      rw [sh1_n m (by omega)]
      refine st_icmp_ge (q := 40) (tgt := 188) dX7_byStorm_37 rfl rfl (fun c_37 => ?_) (fun c_37 => False.elim (c_37 (Int32.le_refl _)))
      refine st_lload (q := 190) dX7_byStorm_188 rfl rfl ?_
      refine st_lload (q := 192) dX7_byStorm_190 rfl rfl ?_
      refine st_iload (q := 194) dX7_byStorm_192 rfl rfl ?_
      refine sp_S3 (q := 197) (M' := mX7_lowest) dX7_byStorm_194 rfl ok_X7_lowest mk_X7_lowest ml_X7_215 ⟨Nat.le_of_ble_eq_true rfl, Nat.le_of_ble_eq_true rfl⟩ rfl (Nat.le_of_ble_eq_true rfl) ⟨rfl, rfl⟩ (c_X7_lowest (En_of 50 _ _ (p10_tab m (by omega)).1) (p10_tab m (by omega)).2) ?_
      refine st_lreturn dX7_byStorm_197 rfl ?_
      exact ⟨rfl, rfl, ⟨_, _, hM, hA⟩, hF⟩
    | succ k ih =>
      intro s hi w S f l10 l12 l13 hM hA hG hF 
      refine st_iload (q := 34) dX7_byStorm_32 rfl rfl ?_
      refine st_iconst (q := 35) dX7_byStorm_34 rfl ic_1 ?_
      refine st_iload_n (q := 36) dX7_byStorm_35 rfl rfl rfl ?_
      refine st_ishl (q := 37) dX7_byStorm_36 rfl ?_
      rw [sh1_n m (by omega)]
      refine st_icmp_ge (q := 40) (tgt := 188) dX7_byStorm_37 rfl rfl (fun c_37 => False.elim (absurd c_37 (nI_ge (a := s) (b := 2 ^ m) (by omega) (by omega)))) (fun c_37 => ?_)
      refine st_lconst (q := 41) dX7_byStorm_40 rfl lc_1 ?_
      refine st_lstore (q := 43) (L' := [_, _, _, _, _, _, _, _, _, _, _, _, _, _]) dX7_byStorm_41 rfl (Nat.le_of_ble_eq_true rfl) rfl ?_
      refine st_aload_n (q := 44) dX7_byStorm_43 rfl rfl rfl ?_
      refine st_iconst (q := 45) dX7_byStorm_44 rfl ic_0 ?_
      refine st_sipush (q := 48) dX7_byStorm_45 rfl sp_284 ?_
      refine sm_V2 (q := 51) (M' := mX7_copies) dX7_byStorm_48 rfl ok_X7_copies mk_X7_copies ml_X7_200 ⟨Nat.le_of_ble_eq_true rfl, Nat.le_of_ble_eq_true rfl⟩ rfl (Nat.le_of_ble_eq_true rfl) (g_rv hM rfl) ⟨rfl, rfl⟩ (c_copyT hM hG (c := 284) (by decide) (by decide)) ?_
      intro _ n w h9 _
      obtain ⟨f, rfl, rfl, hM, hA_, hR, hF_⟩ := h9
      replace hG := hG.qa hA_
      replace hA := hA.tr hA_
      replace hF := Fr.tr hF hF_
      refine st_iconst (q := 52) dX7_byStorm_51 rfl ic_0 ?_
      refine st_istore (q := 54) (L' := [_, _, _, _, _, _, _, _, _, _, _, _, _, _]) dX7_byStorm_52 rfl (Nat.le_of_ble_eq_true rfl) rfl ?_
      have inn : ∀ (k2 i : Nat), i + k2 = m → ∀ (w2 : ev_W) (S2 : gT) (f2 : Nat → Int32) (l13 : Option Value), MR S2 f2 70 n w2 → QA S0 S2 f0 f2 → GQ S2 f2 T nh nt dd → Fr 70 82 w0 w2 → RQ (stT T dd nh nt (nI s) i) f2 284 nh nt (dd + i) → Ev E mX7_byStorm 54 [some (.ref 70), some (.int v), some (.int x), some (.int (nI m)), some (.int y), some (.long (upM T dd nh nt m v x s)), none, some (.long (pwL 10 m)), none, some (.int (nI s)), some (.long (odM s v i)), none, some (.int (nI i)), l13] [] n w2 (0, 0) (fun a9 n9 w9 => a9 = some (.long ((if y = 0 then upM T dd nh nt m v x (2 ^ m) else pwL 10 m) / cdF (upM T dd nh nt m v x (2 ^ m)) (pwL 10 m) 100)) ∧ n9 = n ∧ QR S0 f0 n w9 ∧ Fr 70 82 w0 w9) := by
        clear hM hA hG hF hR
        intro k2
        induction k2 with
        | zero =>
          intro i hi2 w S f l13 hM hA hG hF hR
          obtain rfl : m = i := by omega
          refine st_iload (q := 56) dX7_byStorm_54 rfl rfl ?_
          refine st_iload_n (q := 57) dX7_byStorm_56 rfl rfl rfl ?_
          refine st_icmp_ge (q := 60) (tgt := 129) dX7_byStorm_57 rfl rfl (fun c_57 => ?_) (fun c_57 => False.elim (c_57 (Int32.le_refl _)))
          refine st_lload (q := 131) dX7_byStorm_129 rfl rfl ?_
          refine st_lload (q := 133) dX7_byStorm_131 rfl rfl ?_
          refine st_iload_n (q := 134) dX7_byStorm_133 rfl rfl rfl ?_
          refine st_bipush (q := 136) dX7_byStorm_134 rfl bp_m4 ?_
          refine st_icmp_ne (q := 139) (tgt := 158) dX7_byStorm_136 rfl rfl (fun c_136 => ?_) (fun c_136 => ?_)
          · obtain ⟨j, hj, ej⟩ := hx.resolve_left c_136
            refine st_aload_n (q := 159) dX7_byStorm_158 rfl rfl rfl ?_
            refine g_getA (q := 162) dX7_byStorm_159 rfl fl_X7_7.g hM rfl ?_
            refine st_sipush (q := 165) dX7_byStorm_162 rfl sp_336 ?_
            refine st_iload_n (q := 166) dX7_byStorm_165 rfl rfl rfl ?_
            refine st_iadd (q := 167) dX7_byStorm_166 rfl ?_
            refine m_sld (q := 168) dX7_byStorm_167 rfl hM (by rw [ej]; exact ix2 (a := 336) (b := j) (by omega) (by decide)) ?_
            refine st_iconst (q := 169) dX7_byStorm_168 rfl ic_2 ?_
            refine st_icmp_ne (q := 172) (tgt := 176) dX7_byStorm_169 rfl rfl (fun c_169 => ?_) (fun c_169 => ?_)
            · refine st_iconst (q := 177) dX7_byStorm_176 rfl ic_1 ?_
              refine st_i2l (q := 178) dX7_byStorm_177 rfl ?_
              refine st_lmul (q := 179) dX7_byStorm_178 rfl ?_
              refine st_ladd (q := 180) dX7_byStorm_179 rfl ?_
              refine st_lstore (q := 182) (L' := [_, _, _, _, _, _, _, _, _, _, _, _, _, _]) dX7_byStorm_180 rfl (Nat.le_of_ble_eq_true rfl) rfl ?_
              refine st_iinc (q := 185) (L' := [_, _, _, _, _, _, _, _, _, _, _, _, _, _]) dX7_byStorm_182 rfl rfl (nI_succ _).symm (Nat.le_of_ble_eq_true rfl) rfl ?_
              refine st_goto (q := 32) dX7_byStorm_185 rfl ?_
              have hod : odM s v m = wgL s v m := od_wg (by omega) m (by omega)
              have ih9 := fun a b c => ih (s + 1) (by omega) w S f a b c hM hA hG hF
              rw [show upM T dd nh nt m v x (s + 1) = upM T dd nh nt m v x s + wgL s v m * (vlM T dd nh nt m x s).toInt64 from rfl, ← hod] at ih9
              first
                | (have e9 : vlM T dd nh nt m x s = f 354 - f 70 := by
                     have e1 := hR.1.so.1
                     have e2 := hG.1.1.so.1
                     rw [Nat.zero_add] at e2
                     rw [vlM, if_pos c_136, e1, e2]
                   rw [e9] at ih9; exact ih9 _ _ _)
                | (have e9 : vlM T dd nh nt m x s = 0 := by rw [vlM, if_neg c_136, if_pos]; rw [ej, hR.1.gone hj]; exact decide_eq_true c_169
                   rw [e9] at ih9; exact ih9 _ _ _)
                | (have e9 : vlM T dd nh nt m x s = 1 := by rw [vlM, if_neg c_136, if_neg]; rw [ej, hR.1.gone hj, decide_eq_false c_169]; decide
                   rw [e9] at ih9; exact ih9 _ _ _)
            · refine st_iconst (q := 173) dX7_byStorm_172 rfl ic_0 ?_
              refine st_goto (q := 177) dX7_byStorm_173 rfl ?_
              refine st_i2l (q := 178) dX7_byStorm_177 rfl ?_
              refine st_lmul (q := 179) dX7_byStorm_178 rfl ?_
              refine st_ladd (q := 180) dX7_byStorm_179 rfl ?_
              refine st_lstore (q := 182) (L' := [_, _, _, _, _, _, _, _, _, _, _, _, _, _]) dX7_byStorm_180 rfl (Nat.le_of_ble_eq_true rfl) rfl ?_
              refine st_iinc (q := 185) (L' := [_, _, _, _, _, _, _, _, _, _, _, _, _, _]) dX7_byStorm_182 rfl rfl (nI_succ _).symm (Nat.le_of_ble_eq_true rfl) rfl ?_
              refine st_goto (q := 32) dX7_byStorm_185 rfl ?_
              have hod : odM s v m = wgL s v m := od_wg (by omega) m (by omega)
              have ih9 := fun a b c => ih (s + 1) (by omega) w S f a b c hM hA hG hF
              rw [show upM T dd nh nt m v x (s + 1) = upM T dd nh nt m v x s + wgL s v m * (vlM T dd nh nt m x s).toInt64 from rfl, ← hod] at ih9
              first
                | (have e9 : vlM T dd nh nt m x s = f 354 - f 70 := by
                     have e1 := hR.1.so.1
                     have e2 := hG.1.1.so.1
                     rw [Nat.zero_add] at e2
                     rw [vlM, if_pos c_136, e1, e2]
                   rw [e9] at ih9; exact ih9 _ _ _)
                | (have e9 : vlM T dd nh nt m x s = 0 := by rw [vlM, if_neg c_136, if_pos]; rw [ej, hR.1.gone hj]; exact decide_eq_true c_169
                   rw [e9] at ih9; exact ih9 _ _ _)
                | (have e9 : vlM T dd nh nt m x s = 1 := by rw [vlM, if_neg c_136, if_neg]; rw [ej, hR.1.gone hj, decide_eq_false c_169]; decide
                   rw [e9] at ih9; exact ih9 _ _ _)
          · refine st_aload_n (q := 140) dX7_byStorm_139 rfl rfl rfl ?_
            refine g_getA (q := 143) dX7_byStorm_140 rfl fl_X7_7.g hM rfl ?_
            refine st_sipush (q := 146) dX7_byStorm_143 rfl sp_354 ?_
            refine m_sld (q := 147) dX7_byStorm_146 rfl hM (by exact ev_ix_nI (j := 354) (by decide) (by decide)) ?_
            refine st_aload_n (q := 148) dX7_byStorm_147 rfl rfl rfl ?_
            refine g_getA (q := 151) dX7_byStorm_148 rfl fl_X7_7.g hM rfl ?_
            refine st_bipush (q := 153) dX7_byStorm_151 rfl bp_70 ?_
            refine m_sld (q := 154) dX7_byStorm_153 rfl hM (by exact ev_ix_nI (j := 70) (by decide) (by decide)) ?_
            refine st_isub (q := 155) dX7_byStorm_154 rfl ?_
            refine st_goto (q := 177) dX7_byStorm_155 rfl ?_
            refine st_i2l (q := 178) dX7_byStorm_177 rfl ?_
            refine st_lmul (q := 179) dX7_byStorm_178 rfl ?_
            refine st_ladd (q := 180) dX7_byStorm_179 rfl ?_
            refine st_lstore (q := 182) (L' := [_, _, _, _, _, _, _, _, _, _, _, _, _, _]) dX7_byStorm_180 rfl (Nat.le_of_ble_eq_true rfl) rfl ?_
            refine st_iinc (q := 185) (L' := [_, _, _, _, _, _, _, _, _, _, _, _, _, _]) dX7_byStorm_182 rfl rfl (nI_succ _).symm (Nat.le_of_ble_eq_true rfl) rfl ?_
            refine st_goto (q := 32) dX7_byStorm_185 rfl ?_
            have hod : odM s v m = wgL s v m := od_wg (by omega) m (by omega)
            have ih9 := fun a b c => ih (s + 1) (by omega) w S f a b c hM hA hG hF
            rw [show upM T dd nh nt m v x (s + 1) = upM T dd nh nt m v x s + wgL s v m * (vlM T dd nh nt m x s).toInt64 from rfl, ← hod] at ih9
            first
              | (have e9 : vlM T dd nh nt m x s = f 354 - f 70 := by
                   have e1 := hR.1.so.1
                   have e2 := hG.1.1.so.1
                   rw [Nat.zero_add] at e2
                   rw [vlM, if_pos c_136, e1, e2]
                 rw [e9] at ih9; exact ih9 _ _ _)
              | (have e9 : vlM T dd nh nt m x s = 0 := by rw [vlM, if_neg c_136, if_pos]; rw [ej, hR.1.gone hj]; exact decide_eq_true c_169
                 rw [e9] at ih9; exact ih9 _ _ _)
              | (have e9 : vlM T dd nh nt m x s = 1 := by rw [vlM, if_neg c_136, if_neg]; rw [ej, hR.1.gone hj, decide_eq_false c_169]; decide
                 rw [e9] at ih9; exact ih9 _ _ _)
        | succ k2 ih2 =>
          intro i hi2 w S f l13 hM hA hG hF hR
          refine st_iload (q := 56) dX7_byStorm_54 rfl rfl ?_
          refine st_iload_n (q := 57) dX7_byStorm_56 rfl rfl rfl ?_
          refine st_icmp_ge (q := 60) (tgt := 129) dX7_byStorm_57 rfl rfl (fun c_57 => False.elim (absurd c_57 (nI_ge (a := i) (b := m) (by omega) (by omega)))) (fun c_57 => ?_)
          refine st_iload (q := 62) dX7_byStorm_60 rfl rfl ?_
          refine st_iload (q := 64) dX7_byStorm_62 rfl rfl ?_
          refine st_ishr (q := 65) dX7_byStorm_64 rfl ?_
          refine st_iconst (q := 66) dX7_byStorm_65 rfl ic_1 ?_
          refine st_iand (q := 67) dX7_byStorm_66 rfl ?_
          refine st_iconst (q := 68) dX7_byStorm_67 rfl ic_1 ?_
          refine st_icmp_ne (q := 71) (tgt := 75) dX7_byStorm_68 rfl rfl (fun c_68 => ?_) (fun c_68 => ?_)
          · refine st_iconst (q := 76) dX7_byStorm_75 rfl ic_0 ?_
            refine st_istore (q := 78) (L' := [_, _, _, _, _, _, _, _, _, _, _, _, _, _]) dX7_byStorm_76 rfl (Nat.le_of_ble_eq_true rfl) rfl ?_
            refine st_lload (q := 80) dX7_byStorm_78 rfl rfl ?_
            refine st_iload (q := 82) dX7_byStorm_80 rfl rfl ?_
            refine st_if_eq (q := 85) (tgt := 90) dX7_byStorm_82 rfl rfl (fun c_82 => ?_) (fun c_82 => ?_)
            · refine st_bipush (q := 92) dX7_byStorm_90 rfl bp_10 ?_
              refine st_iload_n (q := 93) dX7_byStorm_92 rfl rfl rfl ?_
              refine st_isub (q := 94) dX7_byStorm_93 rfl ?_
              refine st_i2l (q := 95) dX7_byStorm_94 rfl ?_
              refine st_lmul (q := 96) dX7_byStorm_95 rfl ?_
              refine st_lstore (q := 98) (L' := [_, _, _, _, _, _, _, _, _, _, _, _, _, _]) dX7_byStorm_96 rfl (Nat.le_of_ble_eq_true rfl) rfl ?_
              refine st_aload_n (q := 99) dX7_byStorm_98 rfl rfl rfl ?_
              refine st_sipush (q := 102) dX7_byStorm_99 rfl sp_284 ?_
              refine st_aload_n (q := 103) dX7_byStorm_102 rfl rfl rfl ?_
              refine st_sipush (q := 106) dX7_byStorm_103 rfl sp_284 ?_
              refine sp_V1 (q := 109) (M' := mX7_riseOn) dX7_byStorm_106 rfl ok_X7_riseOn mk_X7_riseOn ml_X7_194 ⟨Nat.le_of_ble_eq_true rfl, Nat.le_of_ble_eq_true rfl⟩ rfl (Nat.le_of_ble_eq_true rfl) (g_rv hM rfl) ⟨rfl, rfl⟩ (c_X7_riseOn hM (p := 284) (by decide) hR.ed (by omega)) ?_
              refine st_iload (q := 111) dX7_byStorm_109 rfl rfl ?_
              refine st_if_eq (q := 114) (tgt := 118) dX7_byStorm_111 rfl rfl (fun c_111 => ?_) (fun c_111 => ?_)
              · refine st_iconst (q := 119) dX7_byStorm_118 rfl ic_0 ?_
                refine st_iadd (q := 120) dX7_byStorm_119 rfl ?_
                refine sm_V2 (q := 123) (M' := mX7_dayOn) dX7_byStorm_120 rfl ok_X7_dayOn mk_X7_dayOn ml_X7_197 ⟨Nat.le_of_ble_eq_true rfl, Nat.le_of_ble_eq_true rfl⟩ rfl (Nat.le_of_ble_eq_true rfl) (g_rv hM rfl) ⟨rfl, rfl⟩ (c_dayX hM hG hR (x := stT T dd nh nt (nI s) i 13 ((dd + i) % 7) + ((nI s >>> (nI i &&& 31)) &&& 1) * 2) (by
                    have e1 := (hR.1.ri (d := (dd + i) % 7) (Nat.mod_lt _ (by decide))).1
                    first
                      | (rw [e1, c_68, riM, Int32.add_assoc, Int32.add_assoc]; exact congrArg _ (by decide))
                      | (rw [e1, sh_01 (nI s) (by omega) c_68, riM, Int32.add_assoc, Int32.add_assoc]; exact congrArg _ (by decide))
                      | exact absurd rfl c_111
                      | exact absurd c_111 (by decide))) ?_
                intro _ n w h9 _
                obtain ⟨f, rfl, rfl, hM, hA_, hR, hF_⟩ := h9
                replace hG := hG.qa hA_
                replace hA := hA.tr hA_
                replace hF := Fr.tr hF hF_
                refine st_iinc (q := 126) (L' := [_, _, _, _, _, _, _, _, _, _, _, _, _, _]) dX7_byStorm_123 rfl rfl (nI_succ _).symm (Nat.le_of_ble_eq_true rfl) rfl ?_
                refine st_goto (q := 54) dX7_byStorm_126 rfl ?_
                have ih9 := ih2 (i + 1) (by omega) w S f
                first
                  | exact absurd rfl c_82
                  | exact absurd c_82 (by decide)
                  | exact absurd rfl c_111
                  | exact absurd c_111 (by decide)
                  | (rw [odM, if_pos c_68] at ih9; exact ih9 _ hM hA hG hF hR)
                  | (rw [odM, if_neg c_68] at ih9; exact ih9 _ hM hA hG hF hR)
              · refine st_iconst (q := 115) dX7_byStorm_114 rfl ic_2 ?_
                refine st_goto (q := 119) dX7_byStorm_115 rfl ?_
                refine st_iadd (q := 120) dX7_byStorm_119 rfl ?_
                refine sm_V2 (q := 123) (M' := mX7_dayOn) dX7_byStorm_120 rfl ok_X7_dayOn mk_X7_dayOn ml_X7_197 ⟨Nat.le_of_ble_eq_true rfl, Nat.le_of_ble_eq_true rfl⟩ rfl (Nat.le_of_ble_eq_true rfl) (g_rv hM rfl) ⟨rfl, rfl⟩ (c_dayX hM hG hR (x := stT T dd nh nt (nI s) i 13 ((dd + i) % 7) + ((nI s >>> (nI i &&& 31)) &&& 1) * 2) (by
                    have e1 := (hR.1.ri (d := (dd + i) % 7) (Nat.mod_lt _ (by decide))).1
                    first
                      | (rw [e1, c_68, riM, Int32.add_assoc, Int32.add_assoc]; exact congrArg _ (by decide))
                      | (rw [e1, sh_01 (nI s) (by omega) c_68, riM, Int32.add_assoc, Int32.add_assoc]; exact congrArg _ (by decide))
                      | exact absurd rfl c_111
                      | exact absurd c_111 (by decide))) ?_
                intro _ n w h9 _
                obtain ⟨f, rfl, rfl, hM, hA_, hR, hF_⟩ := h9
                replace hG := hG.qa hA_
                replace hA := hA.tr hA_
                replace hF := Fr.tr hF hF_
                refine st_iinc (q := 126) (L' := [_, _, _, _, _, _, _, _, _, _, _, _, _, _]) dX7_byStorm_123 rfl rfl (nI_succ _).symm (Nat.le_of_ble_eq_true rfl) rfl ?_
                refine st_goto (q := 54) dX7_byStorm_126 rfl ?_
                have ih9 := ih2 (i + 1) (by omega) w S f
                first
                  | exact absurd rfl c_82
                  | exact absurd c_82 (by decide)
                  | exact absurd rfl c_111
                  | exact absurd c_111 (by decide)
                  | (rw [odM, if_pos c_68] at ih9; exact ih9 _ hM hA hG hF hR)
                  | (rw [odM, if_neg c_68] at ih9; exact ih9 _ hM hA hG hF hR)
            · refine st_iload_n (q := 86) dX7_byStorm_85 rfl rfl rfl ?_
              refine st_i2l (q := 87) dX7_byStorm_86 rfl ?_
              refine st_goto (q := 95) dX7_byStorm_87 rfl ?_
              refine st_lmul (q := 96) dX7_byStorm_95 rfl ?_
              refine st_lstore (q := 98) (L' := [_, _, _, _, _, _, _, _, _, _, _, _, _, _]) dX7_byStorm_96 rfl (Nat.le_of_ble_eq_true rfl) rfl ?_
              refine st_aload_n (q := 99) dX7_byStorm_98 rfl rfl rfl ?_
              refine st_sipush (q := 102) dX7_byStorm_99 rfl sp_284 ?_
              refine st_aload_n (q := 103) dX7_byStorm_102 rfl rfl rfl ?_
              refine st_sipush (q := 106) dX7_byStorm_103 rfl sp_284 ?_
              refine sp_V1 (q := 109) (M' := mX7_riseOn) dX7_byStorm_106 rfl ok_X7_riseOn mk_X7_riseOn ml_X7_194 ⟨Nat.le_of_ble_eq_true rfl, Nat.le_of_ble_eq_true rfl⟩ rfl (Nat.le_of_ble_eq_true rfl) (g_rv hM rfl) ⟨rfl, rfl⟩ (c_X7_riseOn hM (p := 284) (by decide) hR.ed (by omega)) ?_
              refine st_iload (q := 111) dX7_byStorm_109 rfl rfl ?_
              refine st_if_eq (q := 114) (tgt := 118) dX7_byStorm_111 rfl rfl (fun c_111 => ?_) (fun c_111 => ?_)
              · refine st_iconst (q := 119) dX7_byStorm_118 rfl ic_0 ?_
                refine st_iadd (q := 120) dX7_byStorm_119 rfl ?_
                refine sm_V2 (q := 123) (M' := mX7_dayOn) dX7_byStorm_120 rfl ok_X7_dayOn mk_X7_dayOn ml_X7_197 ⟨Nat.le_of_ble_eq_true rfl, Nat.le_of_ble_eq_true rfl⟩ rfl (Nat.le_of_ble_eq_true rfl) (g_rv hM rfl) ⟨rfl, rfl⟩ (c_dayX hM hG hR (x := stT T dd nh nt (nI s) i 13 ((dd + i) % 7) + ((nI s >>> (nI i &&& 31)) &&& 1) * 2) (by
                    have e1 := (hR.1.ri (d := (dd + i) % 7) (Nat.mod_lt _ (by decide))).1
                    first
                      | (rw [e1, c_68, riM, Int32.add_assoc, Int32.add_assoc]; exact congrArg _ (by decide))
                      | (rw [e1, sh_01 (nI s) (by omega) c_68, riM, Int32.add_assoc, Int32.add_assoc]; exact congrArg _ (by decide))
                      | exact absurd rfl c_111
                      | exact absurd c_111 (by decide))) ?_
                intro _ n w h9 _
                obtain ⟨f, rfl, rfl, hM, hA_, hR, hF_⟩ := h9
                replace hG := hG.qa hA_
                replace hA := hA.tr hA_
                replace hF := Fr.tr hF hF_
                refine st_iinc (q := 126) (L' := [_, _, _, _, _, _, _, _, _, _, _, _, _, _]) dX7_byStorm_123 rfl rfl (nI_succ _).symm (Nat.le_of_ble_eq_true rfl) rfl ?_
                refine st_goto (q := 54) dX7_byStorm_126 rfl ?_
                have ih9 := ih2 (i + 1) (by omega) w S f
                first
                  | exact absurd rfl c_82
                  | exact absurd c_82 (by decide)
                  | exact absurd rfl c_111
                  | exact absurd c_111 (by decide)
                  | (rw [odM, if_pos c_68] at ih9; exact ih9 _ hM hA hG hF hR)
                  | (rw [odM, if_neg c_68] at ih9; exact ih9 _ hM hA hG hF hR)
              · refine st_iconst (q := 115) dX7_byStorm_114 rfl ic_2 ?_
                refine st_goto (q := 119) dX7_byStorm_115 rfl ?_
                refine st_iadd (q := 120) dX7_byStorm_119 rfl ?_
                refine sm_V2 (q := 123) (M' := mX7_dayOn) dX7_byStorm_120 rfl ok_X7_dayOn mk_X7_dayOn ml_X7_197 ⟨Nat.le_of_ble_eq_true rfl, Nat.le_of_ble_eq_true rfl⟩ rfl (Nat.le_of_ble_eq_true rfl) (g_rv hM rfl) ⟨rfl, rfl⟩ (c_dayX hM hG hR (x := stT T dd nh nt (nI s) i 13 ((dd + i) % 7) + ((nI s >>> (nI i &&& 31)) &&& 1) * 2) (by
                    have e1 := (hR.1.ri (d := (dd + i) % 7) (Nat.mod_lt _ (by decide))).1
                    first
                      | (rw [e1, c_68, riM, Int32.add_assoc, Int32.add_assoc]; exact congrArg _ (by decide))
                      | (rw [e1, sh_01 (nI s) (by omega) c_68, riM, Int32.add_assoc, Int32.add_assoc]; exact congrArg _ (by decide))
                      | exact absurd rfl c_111
                      | exact absurd c_111 (by decide))) ?_
                intro _ n w h9 _
                obtain ⟨f, rfl, rfl, hM, hA_, hR, hF_⟩ := h9
                replace hG := hG.qa hA_
                replace hA := hA.tr hA_
                replace hF := Fr.tr hF hF_
                refine st_iinc (q := 126) (L' := [_, _, _, _, _, _, _, _, _, _, _, _, _, _]) dX7_byStorm_123 rfl rfl (nI_succ _).symm (Nat.le_of_ble_eq_true rfl) rfl ?_
                refine st_goto (q := 54) dX7_byStorm_126 rfl ?_
                have ih9 := ih2 (i + 1) (by omega) w S f
                first
                  | exact absurd rfl c_82
                  | exact absurd c_82 (by decide)
                  | exact absurd rfl c_111
                  | exact absurd c_111 (by decide)
                  | (rw [odM, if_pos c_68] at ih9; exact ih9 _ hM hA hG hF hR)
                  | (rw [odM, if_neg c_68] at ih9; exact ih9 _ hM hA hG hF hR)
          · refine st_iconst (q := 72) dX7_byStorm_71 rfl ic_1 ?_
            refine st_goto (q := 76) dX7_byStorm_72 rfl ?_
            refine st_istore (q := 78) (L' := [_, _, _, _, _, _, _, _, _, _, _, _, _, _]) dX7_byStorm_76 rfl (Nat.le_of_ble_eq_true rfl) rfl ?_
            refine st_lload (q := 80) dX7_byStorm_78 rfl rfl ?_
            refine st_iload (q := 82) dX7_byStorm_80 rfl rfl ?_
            refine st_if_eq (q := 85) (tgt := 90) dX7_byStorm_82 rfl rfl (fun c_82 => ?_) (fun c_82 => ?_)
            · refine st_bipush (q := 92) dX7_byStorm_90 rfl bp_10 ?_
              refine st_iload_n (q := 93) dX7_byStorm_92 rfl rfl rfl ?_
              refine st_isub (q := 94) dX7_byStorm_93 rfl ?_
              refine st_i2l (q := 95) dX7_byStorm_94 rfl ?_
              refine st_lmul (q := 96) dX7_byStorm_95 rfl ?_
              refine st_lstore (q := 98) (L' := [_, _, _, _, _, _, _, _, _, _, _, _, _, _]) dX7_byStorm_96 rfl (Nat.le_of_ble_eq_true rfl) rfl ?_
              refine st_aload_n (q := 99) dX7_byStorm_98 rfl rfl rfl ?_
              refine st_sipush (q := 102) dX7_byStorm_99 rfl sp_284 ?_
              refine st_aload_n (q := 103) dX7_byStorm_102 rfl rfl rfl ?_
              refine st_sipush (q := 106) dX7_byStorm_103 rfl sp_284 ?_
              refine sp_V1 (q := 109) (M' := mX7_riseOn) dX7_byStorm_106 rfl ok_X7_riseOn mk_X7_riseOn ml_X7_194 ⟨Nat.le_of_ble_eq_true rfl, Nat.le_of_ble_eq_true rfl⟩ rfl (Nat.le_of_ble_eq_true rfl) (g_rv hM rfl) ⟨rfl, rfl⟩ (c_X7_riseOn hM (p := 284) (by decide) hR.ed (by omega)) ?_
              refine st_iload (q := 111) dX7_byStorm_109 rfl rfl ?_
              refine st_if_eq (q := 114) (tgt := 118) dX7_byStorm_111 rfl rfl (fun c_111 => ?_) (fun c_111 => ?_)
              · refine st_iconst (q := 119) dX7_byStorm_118 rfl ic_0 ?_
                refine st_iadd (q := 120) dX7_byStorm_119 rfl ?_
                refine sm_V2 (q := 123) (M' := mX7_dayOn) dX7_byStorm_120 rfl ok_X7_dayOn mk_X7_dayOn ml_X7_197 ⟨Nat.le_of_ble_eq_true rfl, Nat.le_of_ble_eq_true rfl⟩ rfl (Nat.le_of_ble_eq_true rfl) (g_rv hM rfl) ⟨rfl, rfl⟩ (c_dayX hM hG hR (x := stT T dd nh nt (nI s) i 13 ((dd + i) % 7) + ((nI s >>> (nI i &&& 31)) &&& 1) * 2) (by
                    have e1 := (hR.1.ri (d := (dd + i) % 7) (Nat.mod_lt _ (by decide))).1
                    first
                      | (rw [e1, c_68, riM, Int32.add_assoc, Int32.add_assoc]; exact congrArg _ (by decide))
                      | (rw [e1, sh_01 (nI s) (by omega) c_68, riM, Int32.add_assoc, Int32.add_assoc]; exact congrArg _ (by decide))
                      | exact absurd rfl c_111
                      | exact absurd c_111 (by decide))) ?_
                intro _ n w h9 _
                obtain ⟨f, rfl, rfl, hM, hA_, hR, hF_⟩ := h9
                replace hG := hG.qa hA_
                replace hA := hA.tr hA_
                replace hF := Fr.tr hF hF_
                refine st_iinc (q := 126) (L' := [_, _, _, _, _, _, _, _, _, _, _, _, _, _]) dX7_byStorm_123 rfl rfl (nI_succ _).symm (Nat.le_of_ble_eq_true rfl) rfl ?_
                refine st_goto (q := 54) dX7_byStorm_126 rfl ?_
                have ih9 := ih2 (i + 1) (by omega) w S f
                first
                  | exact absurd rfl c_82
                  | exact absurd c_82 (by decide)
                  | exact absurd rfl c_111
                  | exact absurd c_111 (by decide)
                  | (rw [odM, if_pos c_68] at ih9; exact ih9 _ hM hA hG hF hR)
                  | (rw [odM, if_neg c_68] at ih9; exact ih9 _ hM hA hG hF hR)
              · refine st_iconst (q := 115) dX7_byStorm_114 rfl ic_2 ?_
                refine st_goto (q := 119) dX7_byStorm_115 rfl ?_
                refine st_iadd (q := 120) dX7_byStorm_119 rfl ?_
                refine sm_V2 (q := 123) (M' := mX7_dayOn) dX7_byStorm_120 rfl ok_X7_dayOn mk_X7_dayOn ml_X7_197 ⟨Nat.le_of_ble_eq_true rfl, Nat.le_of_ble_eq_true rfl⟩ rfl (Nat.le_of_ble_eq_true rfl) (g_rv hM rfl) ⟨rfl, rfl⟩ (c_dayX hM hG hR (x := stT T dd nh nt (nI s) i 13 ((dd + i) % 7) + ((nI s >>> (nI i &&& 31)) &&& 1) * 2) (by
                    have e1 := (hR.1.ri (d := (dd + i) % 7) (Nat.mod_lt _ (by decide))).1
                    first
                      | (rw [e1, c_68, riM, Int32.add_assoc, Int32.add_assoc]; exact congrArg _ (by decide))
                      | (rw [e1, sh_01 (nI s) (by omega) c_68, riM, Int32.add_assoc, Int32.add_assoc]; exact congrArg _ (by decide))
                      | exact absurd rfl c_111
                      | exact absurd c_111 (by decide))) ?_
                intro _ n w h9 _
                obtain ⟨f, rfl, rfl, hM, hA_, hR, hF_⟩ := h9
                replace hG := hG.qa hA_
                replace hA := hA.tr hA_
                replace hF := Fr.tr hF hF_
                refine st_iinc (q := 126) (L' := [_, _, _, _, _, _, _, _, _, _, _, _, _, _]) dX7_byStorm_123 rfl rfl (nI_succ _).symm (Nat.le_of_ble_eq_true rfl) rfl ?_
                refine st_goto (q := 54) dX7_byStorm_126 rfl ?_
                have ih9 := ih2 (i + 1) (by omega) w S f
                first
                  | exact absurd rfl c_82
                  | exact absurd c_82 (by decide)
                  | exact absurd rfl c_111
                  | exact absurd c_111 (by decide)
                  | (rw [odM, if_pos c_68] at ih9; exact ih9 _ hM hA hG hF hR)
                  | (rw [odM, if_neg c_68] at ih9; exact ih9 _ hM hA hG hF hR)
            · refine st_iload_n (q := 86) dX7_byStorm_85 rfl rfl rfl ?_
              refine st_i2l (q := 87) dX7_byStorm_86 rfl ?_
              refine st_goto (q := 95) dX7_byStorm_87 rfl ?_
              refine st_lmul (q := 96) dX7_byStorm_95 rfl ?_
              refine st_lstore (q := 98) (L' := [_, _, _, _, _, _, _, _, _, _, _, _, _, _]) dX7_byStorm_96 rfl (Nat.le_of_ble_eq_true rfl) rfl ?_
              refine st_aload_n (q := 99) dX7_byStorm_98 rfl rfl rfl ?_
              refine st_sipush (q := 102) dX7_byStorm_99 rfl sp_284 ?_
              refine st_aload_n (q := 103) dX7_byStorm_102 rfl rfl rfl ?_
              refine st_sipush (q := 106) dX7_byStorm_103 rfl sp_284 ?_
              refine sp_V1 (q := 109) (M' := mX7_riseOn) dX7_byStorm_106 rfl ok_X7_riseOn mk_X7_riseOn ml_X7_194 ⟨Nat.le_of_ble_eq_true rfl, Nat.le_of_ble_eq_true rfl⟩ rfl (Nat.le_of_ble_eq_true rfl) (g_rv hM rfl) ⟨rfl, rfl⟩ (c_X7_riseOn hM (p := 284) (by decide) hR.ed (by omega)) ?_
              refine st_iload (q := 111) dX7_byStorm_109 rfl rfl ?_
              refine st_if_eq (q := 114) (tgt := 118) dX7_byStorm_111 rfl rfl (fun c_111 => ?_) (fun c_111 => ?_)
              · refine st_iconst (q := 119) dX7_byStorm_118 rfl ic_0 ?_
                refine st_iadd (q := 120) dX7_byStorm_119 rfl ?_
                refine sm_V2 (q := 123) (M' := mX7_dayOn) dX7_byStorm_120 rfl ok_X7_dayOn mk_X7_dayOn ml_X7_197 ⟨Nat.le_of_ble_eq_true rfl, Nat.le_of_ble_eq_true rfl⟩ rfl (Nat.le_of_ble_eq_true rfl) (g_rv hM rfl) ⟨rfl, rfl⟩ (c_dayX hM hG hR (x := stT T dd nh nt (nI s) i 13 ((dd + i) % 7) + ((nI s >>> (nI i &&& 31)) &&& 1) * 2) (by
                    have e1 := (hR.1.ri (d := (dd + i) % 7) (Nat.mod_lt _ (by decide))).1
                    first
                      | (rw [e1, c_68, riM, Int32.add_assoc, Int32.add_assoc]; exact congrArg _ (by decide))
                      | (rw [e1, sh_01 (nI s) (by omega) c_68, riM, Int32.add_assoc, Int32.add_assoc]; exact congrArg _ (by decide))
                      | exact absurd rfl c_111
                      | exact absurd c_111 (by decide))) ?_
                intro _ n w h9 _
                obtain ⟨f, rfl, rfl, hM, hA_, hR, hF_⟩ := h9
                replace hG := hG.qa hA_
                replace hA := hA.tr hA_
                replace hF := Fr.tr hF hF_
                refine st_iinc (q := 126) (L' := [_, _, _, _, _, _, _, _, _, _, _, _, _, _]) dX7_byStorm_123 rfl rfl (nI_succ _).symm (Nat.le_of_ble_eq_true rfl) rfl ?_
                refine st_goto (q := 54) dX7_byStorm_126 rfl ?_
                have ih9 := ih2 (i + 1) (by omega) w S f
                first
                  | exact absurd rfl c_82
                  | exact absurd c_82 (by decide)
                  | exact absurd rfl c_111
                  | exact absurd c_111 (by decide)
                  | (rw [odM, if_pos c_68] at ih9; exact ih9 _ hM hA hG hF hR)
                  | (rw [odM, if_neg c_68] at ih9; exact ih9 _ hM hA hG hF hR)
              · refine st_iconst (q := 115) dX7_byStorm_114 rfl ic_2 ?_
                refine st_goto (q := 119) dX7_byStorm_115 rfl ?_
                refine st_iadd (q := 120) dX7_byStorm_119 rfl ?_
                refine sm_V2 (q := 123) (M' := mX7_dayOn) dX7_byStorm_120 rfl ok_X7_dayOn mk_X7_dayOn ml_X7_197 ⟨Nat.le_of_ble_eq_true rfl, Nat.le_of_ble_eq_true rfl⟩ rfl (Nat.le_of_ble_eq_true rfl) (g_rv hM rfl) ⟨rfl, rfl⟩ (c_dayX hM hG hR (x := stT T dd nh nt (nI s) i 13 ((dd + i) % 7) + ((nI s >>> (nI i &&& 31)) &&& 1) * 2) (by
                    have e1 := (hR.1.ri (d := (dd + i) % 7) (Nat.mod_lt _ (by decide))).1
                    first
                      | (rw [e1, c_68, riM, Int32.add_assoc, Int32.add_assoc]; exact congrArg _ (by decide))
                      | (rw [e1, sh_01 (nI s) (by omega) c_68, riM, Int32.add_assoc, Int32.add_assoc]; exact congrArg _ (by decide))
                      | exact absurd rfl c_111
                      | exact absurd c_111 (by decide))) ?_
                intro _ n w h9 _
                obtain ⟨f, rfl, rfl, hM, hA_, hR, hF_⟩ := h9
                replace hG := hG.qa hA_
                replace hA := hA.tr hA_
                replace hF := Fr.tr hF hF_
                refine st_iinc (q := 126) (L' := [_, _, _, _, _, _, _, _, _, _, _, _, _, _]) dX7_byStorm_123 rfl rfl (nI_succ _).symm (Nat.le_of_ble_eq_true rfl) rfl ?_
                refine st_goto (q := 54) dX7_byStorm_126 rfl ?_
                have ih9 := ih2 (i + 1) (by omega) w S f
                first
                  | exact absurd rfl c_82
                  | exact absurd c_82 (by decide)
                  | exact absurd rfl c_111
                  | exact absurd c_111 (by decide)
                  | (rw [odM, if_pos c_68] at ih9; exact ih9 _ hM hA hG hF hR)
                  | (rw [odM, if_neg c_68] at ih9; exact ih9 _ hM hA hG hF hR)
      exact inn m 0 (by omega) w S f _ hM hA hG hF hR
  have lp1 : ∀ (k i : Nat), i + k = m → Ev E mX7_byStorm 9 [some (.ref 70), some (.int v), some (.int x), some (.int (nI m)), some (.int y), some (.long 0), none, some (.long (pwL 10 i)), none, some (.int (nI i)), none, none, none, none] [] n w (0, 0) (fun a9 n9 w9 => a9 = some (.long ((if y = 0 then upM T dd nh nt m v x (2 ^ m) else pwL 10 m) / cdF (upM T dd nh nt m v x (2 ^ m)) (pwL 10 m) 100)) ∧ n9 = n ∧ QR S0 f0 n w9 ∧ Fr 70 82 w0 w9) := by
    intro k
    induction k with
    | zero =>
      intro i hi
      obtain rfl : m = i := by omega
      refine st_iload (q := 11) dX7_byStorm_9 rfl rfl ?_
      refine st_iload_n (q := 12) dX7_byStorm_11 rfl rfl rfl ?_
      refine st_icmp_ge (q := 15) (tgt := 29) dX7_byStorm_12 rfl rfl (fun c_12 => ?_) (fun c_12 => False.elim (c_12 (Int32.le_refl _)))
      refine st_iconst (q := 30) dX7_byStorm_29 rfl ic_0 ?_
      refine st_istore (q := 32) (L' := [_, _, _, _, _, _, _, _, _, _, _, _, _, _]) dX7_byStorm_30 rfl (Nat.le_of_ble_eq_true rfl) rfl ?_
      exact lp (2 ^ m) 0 (by omega) w S f none none none hM hA hG hF
    | succ k ih =>
      intro i hi
      refine st_iload (q := 11) dX7_byStorm_9 rfl rfl ?_
      refine st_iload_n (q := 12) dX7_byStorm_11 rfl rfl rfl ?_
      refine st_icmp_ge (q := 15) (tgt := 29) dX7_byStorm_12 rfl rfl (fun c_12 => False.elim (absurd c_12 (nI_ge (a := i) (b := m) (by omega) (by omega)))) (fun c_12 => ?_)
      refine st_lload (q := 17) dX7_byStorm_15 rfl rfl ?_
      refine st_ldc2 (q := 20) dX7_byStorm_17 rfl cn_X7_213 ?_
      refine st_lmul (q := 21) dX7_byStorm_20 rfl ?_
      refine st_lstore (q := 23) (L' := [_, _, _, _, _, _, _, _, _, _, _, _, _, _]) dX7_byStorm_21 rfl (Nat.le_of_ble_eq_true rfl) rfl ?_
      refine st_iinc (q := 26) (L' := [_, _, _, _, _, _, _, _, _, _, _, _, _, _]) dX7_byStorm_23 rfl rfl (nI_succ _).symm (Nat.le_of_ble_eq_true rfl) rfl ?_
      refine st_goto (q := 9) dX7_byStorm_26 rfl ?_
      have ih9 := ih (i + 1) (by omega)
      rw [pwL, show (10 : Int32).toInt64 = 10 from by decide] at ih9
      exact ih9
  refine st_lconst (q := 1) dX7_byStorm_0 rfl lc_0 ?_
  refine st_lstore (q := 3) (L' := [_, _, _, _, _, _, _, _, _, _, _, _, _, _]) dX7_byStorm_1 rfl (Nat.le_of_ble_eq_true rfl) rfl ?_
  refine st_lconst (q := 4) dX7_byStorm_3 rfl lc_1 ?_
  refine st_lstore (q := 6) (L' := [_, _, _, _, _, _, _, _, _, _, _, _, _, _]) dX7_byStorm_4 rfl (Nat.le_of_ble_eq_true rfl) rfl ?_
  refine st_iconst (q := 7) dX7_byStorm_6 rfl ic_0 ?_
  refine st_istore (q := 9) (L' := [_, _, _, _, _, _, _, _, _, _, _, _, _, _]) dX7_byStorm_7 rfl (Nat.le_of_ble_eq_true rfl) rfl ?_
  exact lp1 m 0 (by omega)
theorem frL_eq {a : Int64} {m : Nat} {y : Int32} (hm : m ≤ 8) : (if y = 0 then a else pwL 10 m) / cdF a (pwL 10 m) 100 = frL a (pwL 10 m) y := by
  rw [frL, if_neg (cdF_ne 100 a _ (En_of 50 _ _ (p10_tab m (by omega)).1) (Or.inr (p10_tab m (by omega)).2))]
theorem pw_nat {a : Nat} (ha : a ≤ 10) : ∀ k, pwL (nI a) k = Int64.ofNat (a ^ k)
  | 0 => rfl
  | k + 1 => by
    have e : ∀ a, a < 11 → (nI a).toInt64 = Int64.ofNat a := by decide
    rw [pwL, pw_nat ha k, e a (by omega), ← Int64.ofNat_mul, Nat.pow_succ]
theorem n10 : ∀ a, a ≤ 10 → 10 - nI a = nI (10 - a) := by decide
theorem wg_nat {a s m : Nat} (ha : a ≤ 10) (hm : m ≤ 8) : ∃ u, u ≤ 10 ^ 8 ∧ wgL s (nI a) m = Int64.ofNat u := by
  have h1 := cntN_le s m
  refine ⟨a ^ cntN s m * (10 - a) ^ (m - cntN s m), ?_, ?_⟩
  · have h2 : a ^ cntN s m ≤ 10 ^ cntN s m := Nat.pow_le_pow_left ha _
    have h3 : (10 - a) ^ (m - cntN s m) ≤ 10 ^ (m - cntN s m) := Nat.pow_le_pow_left (by omega) _
    calc a ^ cntN s m * (10 - a) ^ (m - cntN s m) ≤ 10 ^ cntN s m * 10 ^ (m - cntN s m) := Nat.mul_le_mul h2 h3
      _ = 10 ^ m := by rw [← Nat.pow_add, show cntN s m + (m - cntN s m) = m from by omega]
      _ ≤ 10 ^ 8 := Nat.pow_le_pow_right (by decide) hm
  · rw [wgL, n10 a ha, pw_nat ha, pw_nat (by omega), ← Int64.ofNat_mul]
theorem wg_0 {a s m : Nat} (ha : a ≤ 10) (hm : m ≤ 8) (h : ¬ 0 < wgL s (nI a) m) : wgL s (nI a) m = 0 := by
  obtain ⟨u, hu, e⟩ := wg_nat (s := s) ha hm
  rw [e] at h ⊢
  have e1 : (Int64.ofNat u).toInt = u := Int64.toInt_ofNat_of_lt (by have : (10 : Nat) ^ 8 < 2 ^ 63 := by decide
                                                                     omega)
  have h2 := Int64.le_iff_toInt_le.mp (Int64.not_lt.mp h)
  rw [e1] at h2
  have e0 : (0 : Int64).toInt = 0 := by decide
  have : u = 0 := by omega
  rw [this]; rfl
theorem up_lu {T : gT} {dd nh nt m a j : Nat} (ha : a ≤ 10) (hm : m ≤ 8) (hj : j < 8) : ∀ s, upM T dd nh nt m (nI a) (nI j) s = luF T dd nh nt m (nI a) (nI j) s
  | 0 => rfl
  | s + 1 => by
    rw [upM, luF, up_lu ha hm hj s, vlM, if_neg (nI_n4 (by omega))]
    by_cases w0 : 0 < wgL s (nI a) m
    · rw [if_pos w0]
      split
      · rw [show (0 : Int32).toInt64 = 0 from by decide, Int64.mul_zero, Int64.add_zero]
      · rw [show (1 : Int32).toInt64 = 1 from by decide, Int64.mul_one]
    · rw [if_neg w0, wg_0 ha hm w0, Int64.zero_mul, Int64.add_zero]
theorem up_me {T : gT} {dd nh nt m a : Nat} (ha : a ≤ 10) (hm : m ≤ 8) : ∀ s, upM T dd nh nt m (nI a) (-4) s = meF T dd nh nt m (nI a) s
  | 0 => rfl
  | s + 1 => by
    rw [upM, meF, up_me ha hm s, vlM, if_pos rfl]
    by_cases w0 : 0 < wgL s (nI a) m
    · rw [if_pos w0]
    · rw [if_neg w0, wg_0 ha hm w0, Int64.zero_mul, Int64.add_zero]
set_option maxRecDepth 100000 in
set_option maxHeartbeats 4000000 in
theorem c_X7_luck {E : ev_E} {n : Nat} {w : ev_W} {S0 S : gT} {f0 f : Nat → Int32} {w0 : ev_W} (hF : Fr 70 82 w0 w) (hM : MR S f 70 n w) (hA : QA S0 S f0 f) {T : gT} {nh nt dd : Nat} (hG : GQ S f T nh nt dd) {v x y z : Int32} : Ct E mX7_luck [.ref 70, .int v, .int x, .int y, .int z] n w (fun a9 n9 w9 => a9 = some (.long (luckS T nh nt dd v x y z)) ∧ n9 = n ∧ QR S0 f0 n w9 ∧ Fr 70 82 w0 w9) := by
  refine Ct.of 0 (by decide) (Nat.le_of_ble_eq_true rfl) rfl ?_
  refine st_iload_n (q := 1) dX7_luck_0 rfl rfl rfl ?_
  refine st_i2l (q := 2) dX7_luck_1 rfl ?_
  refine st_lconst (q := 3) dX7_luck_2 rfl lc_0 ?_
  refine st_ldc2 (q := 6) dX7_luck_3 rfl cn_X7_213 ?_
  refine sp_S3 (q := 9) (M' := mX7_in) dX7_luck_6 rfl ok_X7_in mk_X7_in ml_X7_46 ⟨Nat.le_of_ble_eq_true rfl, Nat.le_of_ble_eq_true rfl⟩ rfl (Nat.le_of_ble_eq_true rfl) ⟨rfl, rfl⟩ (c_X7_inI (a := 0) (c := 10) (by decide) (by decide)) ?_
  refine st_if_eq (q := 12) (tgt := 55) dX7_luck_9 rfl rfl (fun c_9 => ?_) (fun c_9 => ?_)
  · refine st_ldc2 (q := 58) dX7_luck_55 rfl cn_X7_223 ?_
    refine st_lreturn dX7_luck_58 rfl ?_
    first
      | exact ⟨by rw [luckS, if_neg (by rw [zI_0.mp c_9]; decide)], rfl, ⟨_, _, hM, hA⟩, hF⟩
      | exact ⟨by rw [luckS, if_pos (zI_1.mp c_9), if_neg (by rw [← hG.2.2.1, zI_0.mp c_17]; decide)], rfl, ⟨_, _, hM, hA⟩, hF⟩
      | exact ⟨by rw [luckS, if_pos (zI_1.mp c_9), if_pos (by rw [← hG.2.2.1]; exact zI_1.mp c_17), if_neg (by rw [zI_0.mp c_29]; decide)], rfl, ⟨_, _, hM, hA⟩, hF⟩
      | exact ⟨by rw [luckS, if_pos (zI_1.mp c_9), if_pos (by rw [← hG.2.2.1]; exact zI_1.mp c_17), if_pos (zI_1.mp c_29), if_neg (by rw [zI_0.mp c_40]; decide)], rfl, ⟨_, _, hM, hA⟩, hF⟩
      | exact ⟨by rw [luckS, if_pos h10, if_pos h1, if_pos h8, if_pos h2, hmc, frL_eq hm, up_lu ha hm (by omega)], rfl, ⟨_, _, hM, hA⟩, hF⟩
  · refine st_aload_n (q := 13) dX7_luck_12 rfl rfl rfl ?_
    refine st_iload_n (q := 14) dX7_luck_13 rfl rfl rfl ?_
    refine sp_V1 (q := 17) (M' := mX7_isThing) dX7_luck_14 rfl ok_X7_isThing mk_X7_isThing ml_X7_176 ⟨Nat.le_of_ble_eq_true rfl, Nat.le_of_ble_eq_true rfl⟩ rfl (Nat.le_of_ble_eq_true rfl) (g_rv hM rfl) ⟨rfl, rfl⟩ (c_X7_isThing hM) ?_
    refine st_if_eq (q := 20) (tgt := 55) dX7_luck_17 rfl rfl (fun c_17 => ?_) (fun c_17 => ?_)
    · refine st_ldc2 (q := 58) dX7_luck_55 rfl cn_X7_223 ?_
      refine st_lreturn dX7_luck_58 rfl ?_
      first
        | exact ⟨by rw [luckS, if_neg (by rw [zI_0.mp c_9]; decide)], rfl, ⟨_, _, hM, hA⟩, hF⟩
        | exact ⟨by rw [luckS, if_pos (zI_1.mp c_9), if_neg (by rw [← hG.2.2.1, zI_0.mp c_17]; decide)], rfl, ⟨_, _, hM, hA⟩, hF⟩
        | exact ⟨by rw [luckS, if_pos (zI_1.mp c_9), if_pos (by rw [← hG.2.2.1]; exact zI_1.mp c_17), if_neg (by rw [zI_0.mp c_29]; decide)], rfl, ⟨_, _, hM, hA⟩, hF⟩
        | exact ⟨by rw [luckS, if_pos (zI_1.mp c_9), if_pos (by rw [← hG.2.2.1]; exact zI_1.mp c_17), if_pos (zI_1.mp c_29), if_neg (by rw [zI_0.mp c_40]; decide)], rfl, ⟨_, _, hM, hA⟩, hF⟩
        | exact ⟨by rw [luckS, if_pos h10, if_pos h1, if_pos h8, if_pos h2, hmc, frL_eq hm, up_lu ha hm (by omega)], rfl, ⟨_, _, hM, hA⟩, hF⟩
    · refine st_iload_n (q := 21) dX7_luck_20 rfl rfl rfl ?_
      refine st_i2l (q := 22) dX7_luck_21 rfl ?_
      refine st_lconst (q := 23) dX7_luck_22 rfl lc_0 ?_
      refine st_ldc2 (q := 26) dX7_luck_23 rfl cn_X7_187 ?_
      refine sp_S3 (q := 29) (M' := mX7_in) dX7_luck_26 rfl ok_X7_in mk_X7_in ml_X7_46 ⟨Nat.le_of_ble_eq_true rfl, Nat.le_of_ble_eq_true rfl⟩ rfl (Nat.le_of_ble_eq_true rfl) ⟨rfl, rfl⟩ (c_X7_inI (a := 0) (c := 8) (by decide) (by decide)) ?_
      refine st_if_eq (q := 32) (tgt := 55) dX7_luck_29 rfl rfl (fun c_29 => ?_) (fun c_29 => ?_)
      · refine st_ldc2 (q := 58) dX7_luck_55 rfl cn_X7_223 ?_
        refine st_lreturn dX7_luck_58 rfl ?_
        first
          | exact ⟨by rw [luckS, if_neg (by rw [zI_0.mp c_9]; decide)], rfl, ⟨_, _, hM, hA⟩, hF⟩
          | exact ⟨by rw [luckS, if_pos (zI_1.mp c_9), if_neg (by rw [← hG.2.2.1, zI_0.mp c_17]; decide)], rfl, ⟨_, _, hM, hA⟩, hF⟩
          | exact ⟨by rw [luckS, if_pos (zI_1.mp c_9), if_pos (by rw [← hG.2.2.1]; exact zI_1.mp c_17), if_neg (by rw [zI_0.mp c_29]; decide)], rfl, ⟨_, _, hM, hA⟩, hF⟩
          | exact ⟨by rw [luckS, if_pos (zI_1.mp c_9), if_pos (by rw [← hG.2.2.1]; exact zI_1.mp c_17), if_pos (zI_1.mp c_29), if_neg (by rw [zI_0.mp c_40]; decide)], rfl, ⟨_, _, hM, hA⟩, hF⟩
          | exact ⟨by rw [luckS, if_pos h10, if_pos h1, if_pos h8, if_pos h2, hmc, frL_eq hm, up_lu ha hm (by omega)], rfl, ⟨_, _, hM, hA⟩, hF⟩
      · refine st_iload (q := 34) dX7_luck_32 rfl rfl ?_
        refine st_i2l (q := 35) dX7_luck_34 rfl ?_
        refine st_lconst (q := 36) dX7_luck_35 rfl lc_0 ?_
        refine st_lconst (q := 37) dX7_luck_36 rfl lc_1 ?_
        refine sp_S3 (q := 40) (M' := mX7_in) dX7_luck_37 rfl ok_X7_in mk_X7_in ml_X7_46 ⟨Nat.le_of_ble_eq_true rfl, Nat.le_of_ble_eq_true rfl⟩ rfl (Nat.le_of_ble_eq_true rfl) ⟨rfl, rfl⟩ (c_X7_inI (a := 0) (c := 1) (by decide) (by decide)) ?_
        refine st_if_eq (q := 43) (tgt := 55) dX7_luck_40 rfl rfl (fun c_40 => ?_) (fun c_40 => ?_)
        · refine st_ldc2 (q := 58) dX7_luck_55 rfl cn_X7_223 ?_
          refine st_lreturn dX7_luck_58 rfl ?_
          first
            | exact ⟨by rw [luckS, if_neg (by rw [zI_0.mp c_9]; decide)], rfl, ⟨_, _, hM, hA⟩, hF⟩
            | exact ⟨by rw [luckS, if_pos (zI_1.mp c_9), if_neg (by rw [← hG.2.2.1, zI_0.mp c_17]; decide)], rfl, ⟨_, _, hM, hA⟩, hF⟩
            | exact ⟨by rw [luckS, if_pos (zI_1.mp c_9), if_pos (by rw [← hG.2.2.1]; exact zI_1.mp c_17), if_neg (by rw [zI_0.mp c_29]; decide)], rfl, ⟨_, _, hM, hA⟩, hF⟩
            | exact ⟨by rw [luckS, if_pos (zI_1.mp c_9), if_pos (by rw [← hG.2.2.1]; exact zI_1.mp c_17), if_pos (zI_1.mp c_29), if_neg (by rw [zI_0.mp c_40]; decide)], rfl, ⟨_, _, hM, hA⟩, hF⟩
            | exact ⟨by rw [luckS, if_pos h10, if_pos h1, if_pos h8, if_pos h2, hmc, frL_eq hm, up_lu ha hm (by omega)], rfl, ⟨_, _, hM, hA⟩, hF⟩
        · obtain ⟨a, ha, rfl⟩ := inI_k (k := 10) (zI_1.mp c_9) (by decide)
          have h10 : inI (nI a) 0 10 = true := zI_1.mp c_9
          have hN9 := hG.1.1.hnt
          obtain ⟨j, hj, rfl⟩ := inI_ix (by rw [← hG.2.2.1]; exact zI_1.mp c_17) (by omega)
          have h1 : inI (nI j) 0 (nI nt - 1) = true := by rw [← hG.2.2.1]; exact zI_1.mp c_17
          have hjc : (nI j).toNatClampNeg = j := nI_clamp (by omega)
          obtain ⟨m, hm, rfl⟩ := inI_k (k := 8) (zI_1.mp c_29) (by decide)
          have h8 : inI (nI m) 0 8 = true := zI_1.mp c_29
          have hmc : (nI m).toNatClampNeg = m := nI_clamp (by omega)
          have h2 : inI z 0 1 = true := zI_1.mp c_40
          refine st_aload_n (q := 44) dX7_luck_43 rfl rfl rfl ?_
          refine st_iload_n (q := 45) dX7_luck_44 rfl rfl rfl ?_
          refine st_iload_n (q := 46) dX7_luck_45 rfl rfl rfl ?_
          refine st_iload_n (q := 47) dX7_luck_46 rfl rfl rfl ?_
          refine st_iload (q := 49) dX7_luck_47 rfl rfl ?_
          refine sm_V4 (q := 52) (M' := mX7_byStorm) dX7_luck_49 rfl ok_X7_byStorm mk_X7_byStorm ml_X7_219 ⟨Nat.le_of_ble_eq_true rfl, Nat.le_of_ble_eq_true rfl⟩ rfl (Nat.le_of_ble_eq_true rfl) (g_rv hM rfl) ⟨rfl, rfl⟩ (c_X7_byStorm hF hM hA hG hm (Or.inr ⟨j, hj, rfl⟩)) ?_
          intro _ n w h9 _
          obtain ⟨rfl, rfl, ⟨S, f, hM, hA⟩, hF⟩ := h9
          refine st_goto (q := 58) dX7_luck_52 rfl ?_
          refine st_lreturn dX7_luck_58 rfl ?_
          first
            | exact ⟨by rw [luckS, if_neg (by rw [zI_0.mp c_9]; decide)], rfl, ⟨_, _, hM, hA⟩, hF⟩
            | exact ⟨by rw [luckS, if_pos (zI_1.mp c_9), if_neg (by rw [← hG.2.2.1, zI_0.mp c_17]; decide)], rfl, ⟨_, _, hM, hA⟩, hF⟩
            | exact ⟨by rw [luckS, if_pos (zI_1.mp c_9), if_pos (by rw [← hG.2.2.1]; exact zI_1.mp c_17), if_neg (by rw [zI_0.mp c_29]; decide)], rfl, ⟨_, _, hM, hA⟩, hF⟩
            | exact ⟨by rw [luckS, if_pos (zI_1.mp c_9), if_pos (by rw [← hG.2.2.1]; exact zI_1.mp c_17), if_pos (zI_1.mp c_29), if_neg (by rw [zI_0.mp c_40]; decide)], rfl, ⟨_, _, hM, hA⟩, hF⟩
            | exact ⟨by rw [luckS, if_pos h10, if_pos h1, if_pos h8, if_pos h2, hmc, frL_eq hm, up_lu ha hm (by omega)], rfl, ⟨_, _, hM, hA⟩, hF⟩
set_option maxRecDepth 100000 in
set_option maxHeartbeats 4000000 in
theorem c_X7_mean {E : ev_E} {n : Nat} {w : ev_W} {S0 S : gT} {f0 f : Nat → Int32} {w0 : ev_W} (hF : Fr 70 82 w0 w) (hM : MR S f 70 n w) (hA : QA S0 S f0 f) {T : gT} {nh nt dd : Nat} (hG : GQ S f T nh nt dd) {v y z : Int32} : Ct E mX7_mean [.ref 70, .int v, .int y, .int z] n w (fun a9 n9 w9 => a9 = some (.long (meanS T nh nt dd v y z)) ∧ n9 = n ∧ QR S0 f0 n w9 ∧ Fr 70 82 w0 w9) := by
  refine Ct.of 0 (by decide) (Nat.le_of_ble_eq_true rfl) rfl ?_
  refine st_iload_n (q := 1) dX7_mean_0 rfl rfl rfl ?_
  refine st_i2l (q := 2) dX7_mean_1 rfl ?_
  refine st_lconst (q := 3) dX7_mean_2 rfl lc_0 ?_
  refine st_ldc2 (q := 6) dX7_mean_3 rfl cn_X7_213 ?_
  refine sp_S3 (q := 9) (M' := mX7_in) dX7_mean_6 rfl ok_X7_in mk_X7_in ml_X7_46 ⟨Nat.le_of_ble_eq_true rfl, Nat.le_of_ble_eq_true rfl⟩ rfl (Nat.le_of_ble_eq_true rfl) ⟨rfl, rfl⟩ (c_X7_inI (a := 0) (c := 10) (by decide) (by decide)) ?_
  refine st_if_eq (q := 12) (tgt := 46) dX7_mean_9 rfl rfl (fun c_9 => ?_) (fun c_9 => ?_)
  · refine st_ldc2 (q := 49) dX7_mean_46 rfl cn_X7_223 ?_
    refine st_lreturn dX7_mean_49 rfl ?_
    first
      | exact ⟨by rw [meanS, if_neg (by rw [zI_0.mp c_9]; decide)], rfl, ⟨_, _, hM, hA⟩, hF⟩
      | exact ⟨by rw [meanS, if_pos (zI_1.mp c_9), if_neg (by rw [zI_0.mp c_21]; decide)], rfl, ⟨_, _, hM, hA⟩, hF⟩
      | exact ⟨by rw [meanS, if_pos (zI_1.mp c_9), if_pos (zI_1.mp c_21), if_neg (by rw [zI_0.mp c_31]; decide)], rfl, ⟨_, _, hM, hA⟩, hF⟩
      | exact ⟨by rw [meanS, if_pos h10, if_pos h8, if_pos h2, hmc, frL_eq hm, up_me ha hm], rfl, ⟨_, _, hM, hA⟩, hF⟩
  · refine st_iload_n (q := 13) dX7_mean_12 rfl rfl rfl ?_
    refine st_i2l (q := 14) dX7_mean_13 rfl ?_
    refine st_lconst (q := 15) dX7_mean_14 rfl lc_0 ?_
    refine st_ldc2 (q := 18) dX7_mean_15 rfl cn_X7_187 ?_
    refine sp_S3 (q := 21) (M' := mX7_in) dX7_mean_18 rfl ok_X7_in mk_X7_in ml_X7_46 ⟨Nat.le_of_ble_eq_true rfl, Nat.le_of_ble_eq_true rfl⟩ rfl (Nat.le_of_ble_eq_true rfl) ⟨rfl, rfl⟩ (c_X7_inI (a := 0) (c := 8) (by decide) (by decide)) ?_
    refine st_if_eq (q := 24) (tgt := 46) dX7_mean_21 rfl rfl (fun c_21 => ?_) (fun c_21 => ?_)
    · refine st_ldc2 (q := 49) dX7_mean_46 rfl cn_X7_223 ?_
      refine st_lreturn dX7_mean_49 rfl ?_
      first
        | exact ⟨by rw [meanS, if_neg (by rw [zI_0.mp c_9]; decide)], rfl, ⟨_, _, hM, hA⟩, hF⟩
        | exact ⟨by rw [meanS, if_pos (zI_1.mp c_9), if_neg (by rw [zI_0.mp c_21]; decide)], rfl, ⟨_, _, hM, hA⟩, hF⟩
        | exact ⟨by rw [meanS, if_pos (zI_1.mp c_9), if_pos (zI_1.mp c_21), if_neg (by rw [zI_0.mp c_31]; decide)], rfl, ⟨_, _, hM, hA⟩, hF⟩
        | exact ⟨by rw [meanS, if_pos h10, if_pos h8, if_pos h2, hmc, frL_eq hm, up_me ha hm], rfl, ⟨_, _, hM, hA⟩, hF⟩
    · refine st_iload_n (q := 25) dX7_mean_24 rfl rfl rfl ?_
      refine st_i2l (q := 26) dX7_mean_25 rfl ?_
      refine st_lconst (q := 27) dX7_mean_26 rfl lc_0 ?_
      refine st_lconst (q := 28) dX7_mean_27 rfl lc_1 ?_
      refine sp_S3 (q := 31) (M' := mX7_in) dX7_mean_28 rfl ok_X7_in mk_X7_in ml_X7_46 ⟨Nat.le_of_ble_eq_true rfl, Nat.le_of_ble_eq_true rfl⟩ rfl (Nat.le_of_ble_eq_true rfl) ⟨rfl, rfl⟩ (c_X7_inI (a := 0) (c := 1) (by decide) (by decide)) ?_
      refine st_if_eq (q := 34) (tgt := 46) dX7_mean_31 rfl rfl (fun c_31 => ?_) (fun c_31 => ?_)
      · refine st_ldc2 (q := 49) dX7_mean_46 rfl cn_X7_223 ?_
        refine st_lreturn dX7_mean_49 rfl ?_
        first
          | exact ⟨by rw [meanS, if_neg (by rw [zI_0.mp c_9]; decide)], rfl, ⟨_, _, hM, hA⟩, hF⟩
          | exact ⟨by rw [meanS, if_pos (zI_1.mp c_9), if_neg (by rw [zI_0.mp c_21]; decide)], rfl, ⟨_, _, hM, hA⟩, hF⟩
          | exact ⟨by rw [meanS, if_pos (zI_1.mp c_9), if_pos (zI_1.mp c_21), if_neg (by rw [zI_0.mp c_31]; decide)], rfl, ⟨_, _, hM, hA⟩, hF⟩
          | exact ⟨by rw [meanS, if_pos h10, if_pos h8, if_pos h2, hmc, frL_eq hm, up_me ha hm], rfl, ⟨_, _, hM, hA⟩, hF⟩
      · obtain ⟨a, ha, rfl⟩ := inI_k (k := 10) (zI_1.mp c_9) (by decide)
        have h10 : inI (nI a) 0 10 = true := zI_1.mp c_9
        obtain ⟨m, hm, rfl⟩ := inI_k (k := 8) (zI_1.mp c_21) (by decide)
        have h8 : inI (nI m) 0 8 = true := zI_1.mp c_21
        have hmc : (nI m).toNatClampNeg = m := nI_clamp (by omega)
        have h2 : inI z 0 1 = true := zI_1.mp c_31
        refine st_aload_n (q := 35) dX7_mean_34 rfl rfl rfl ?_
        refine st_iload_n (q := 36) dX7_mean_35 rfl rfl rfl ?_
        refine st_bipush (q := 38) dX7_mean_36 rfl bp_m4 ?_
        refine st_iload_n (q := 39) dX7_mean_38 rfl rfl rfl ?_
        refine st_iload_n (q := 40) dX7_mean_39 rfl rfl rfl ?_
        refine sm_V4 (q := 43) (M' := mX7_byStorm) dX7_mean_40 rfl ok_X7_byStorm mk_X7_byStorm ml_X7_219 ⟨Nat.le_of_ble_eq_true rfl, Nat.le_of_ble_eq_true rfl⟩ rfl (Nat.le_of_ble_eq_true rfl) (g_rv hM rfl) ⟨rfl, rfl⟩ (c_X7_byStorm hF hM hA hG hm (Or.inl rfl)) ?_
        intro _ n w h9 _
        obtain ⟨rfl, rfl, ⟨S, f, hM, hA⟩, hF⟩ := h9
        refine st_goto (q := 49) dX7_mean_43 rfl ?_
        refine st_lreturn dX7_mean_49 rfl ?_
        first
          | exact ⟨by rw [meanS, if_neg (by rw [zI_0.mp c_9]; decide)], rfl, ⟨_, _, hM, hA⟩, hF⟩
          | exact ⟨by rw [meanS, if_pos (zI_1.mp c_9), if_neg (by rw [zI_0.mp c_21]; decide)], rfl, ⟨_, _, hM, hA⟩, hF⟩
          | exact ⟨by rw [meanS, if_pos (zI_1.mp c_9), if_pos (zI_1.mp c_21), if_neg (by rw [zI_0.mp c_31]; decide)], rfl, ⟨_, _, hM, hA⟩, hF⟩
          | exact ⟨by rw [meanS, if_pos h10, if_pos h8, if_pos h2, hmc, frL_eq hm, up_me ha hm], rfl, ⟨_, _, hM, hA⟩, hF⟩
