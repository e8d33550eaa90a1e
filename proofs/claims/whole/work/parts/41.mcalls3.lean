def mpuF (f : Nat → Int32) (c x v l : Int32) : Nat → Int32 := if c = 0 then f else upd f x.toNatClampNeg (v - l)
set_option maxRecDepth 100000 in
set_option maxHeartbeats 4000000 in
theorem c_X7_puts {E : ev_E} {n : Nat} {w : ev_W} {S : gT} {f : Nat → Int32} {w0 : ev_W} (hF : Fr 70 82 w0 w) (hM : MR S f 70 n w) {c x v l : Int32} (hx : ¬ c = 0 → vp_in x 426) : Ct E mX7_puts [.ref 70, .int c, .int x, .int v, .int l] n w (ev_mr (if c = 0 then -1 else f x.toNatClampNeg + l) n w0 (MR S (mpuF f c x v l) 70 n)) := by
  refine Ct.of 1 (by decide) (Nat.le_of_ble_eq_true rfl) rfl ?_
  refine st_iload_n (q := 1) dX7_puts_0 rfl rfl rfl ?_
  refine st_if_ne (q := 4) (tgt := 6) dX7_puts_1 rfl rfl (fun c_1 => ?_) (fun c_1 => ?_)
  · refine st_aload_n (q := 7) dX7_puts_6 rfl rfl rfl ?_
    refine g_getA (q := 10) dX7_puts_7 rfl fl_X7_7.g hM rfl ?_
    refine st_iload_n (q := 11) dX7_puts_10 rfl rfl rfl ?_
    refine m_sld (q := 12) dX7_puts_11 rfl hM (by exact ⟨hx c_1, rfl⟩) ?_
    refine st_iload (q := 14) dX7_puts_12 rfl rfl ?_
    refine st_iadd (q := 15) dX7_puts_14 rfl ?_
    refine st_istore (q := 17) (L' := [_, _, _, _, _, _]) dX7_puts_15 rfl (Nat.le_of_ble_eq_true rfl) rfl ?_
    refine st_aload_n (q := 18) dX7_puts_17 rfl rfl rfl ?_
    refine g_getA (q := 21) dX7_puts_18 rfl fl_X7_7.g hM rfl ?_
    refine st_iload_n (q := 22) dX7_puts_21 rfl rfl rfl ?_
    refine st_iload_n (q := 23) dX7_puts_22 rfl rfl rfl ?_
    refine st_iload (q := 25) dX7_puts_23 rfl rfl ?_
    refine st_isub (q := 26) dX7_puts_25 rfl ?_
    refine m_sst (q := 27) dX7_puts_26 rfl hM (by exact ⟨hx c_1, rfl⟩) (fun w hM hF_ => ?_)
    replace hF := Fr.tr hF hF_
    refine st_iload (q := 29) dX7_puts_27 rfl rfl ?_
    refine st_ireturn dX7_puts_29 rfl ?_
    first
      | exact ⟨by rw [if_pos c_1], rfl, by rw [mpuF, if_pos c_1]; exact hM, hF⟩
      | exact ⟨by rw [if_neg c_1], rfl, by rw [mpuF, if_neg c_1]; exact hM, hF⟩
  · refine st_iconst (q := 5) dX7_puts_4 rfl ic_m1 ?_
    refine st_ireturn dX7_puts_5 rfl ?_
    first
      | exact ⟨by rw [if_pos c_1], rfl, by rw [mpuF, if_pos c_1]; exact hM, hF⟩
      | exact ⟨by rw [if_neg c_1], rfl, by rw [mpuF, if_neg c_1]; exact hM, hF⟩
theorem i32_s0 (x : Int32) : x - 0 = x := Int32.sub_zero x
theorem vp_nI {x : Int32} {a N : Nat} (e : x = nI a) (h : a < N) (hN : N < 2 ^ 31) : vp_in x N := by subst e; exact vp_in_nI h hN
def mtiF (f : Nat → Int32) (x y : Int32) : Nat → Int32 := if inI x 0 6 = true then (if inI y 0 8 = true then upd f (60 + x.toNatClampNeg) (y - 4) else f) else f
def mblF (f : Nat → Int32) (x : Int32) : Nat → Int32 := if inI x 0 8 = true then upd f 67 (x - 4) else f
theorem RQ.tide {T : gT} {f : Nat → Int32} {nh nt dd : Nat} (h : RQ T f 0 nh nt dd) (x y : Int32) : RQ (tideS T x y).2 (mtiF f x y) 0 nh nt dd := by
  unfold tideS mtiF
  by_cases a : inI x 0 6 = true
  · rw [if_pos a, if_pos a]
    by_cases b : inI y 0 8 = true
    · rw [if_pos b, if_pos b]
      obtain ⟨j, hj, rfl⟩ := inI_k (k := 6) a (by decide)
      obtain ⟨v, hv, rfl⟩ := inI_k (k := 8) b (by decide)
      rw [nI_clamp (by omega)]
      have k := h.1.set13 (k := j) (by omega) (v := nI v) (x := nI v - 4) (rg_of (m := 8) hv (by decide)) (by rw [Int32.sub_add_cancel])
      rw [Nat.zero_add] at k
      refine ⟨k, ?_, h.2.2.1, h.2.2.2⟩
      rw [pk_un (by omega)]; exact h.2.1
    · rw [if_neg b, if_neg b]; exact h
  · rw [if_neg a, if_neg a]; exact h
set_option maxRecDepth 100000 in
set_option maxHeartbeats 4000000 in
theorem c_X7_tide {E : ev_E} {n : Nat} {w : ev_W} {S : gT} {f : Nat → Int32} {w0 : ev_W} (hF : Fr 70 82 w0 w) (hM : MR S f 70 n w) {T : gT} {nh nt dd : Nat} (hQ : RQ T f 0 nh nt dd) (e1 : S 1 0 = nI nh) (e2 : S 2 0 = nI nt) {x y : Int32} : Ct E mX7_tide [.ref 70, .int x, .int y] n w (ev_mr ((tideS T x y).1) n w0 (MR S (mtiF f x y) 70 n)) := by
  refine Ct.of 0 (by decide) (Nat.le_of_ble_eq_true rfl) rfl ?_
  have hr : ∀ d, d < 7 → T 13 d = f (60 + d) + 4 := fun d hd => by have := (hQ.1.ri hd).1; rw [Nat.zero_add] at this; exact this
  refine st_aload_n (q := 1) dX7_tide_0 rfl rfl rfl ?_
  refine st_iload_n (q := 2) dX7_tide_1 rfl rfl rfl ?_
  refine st_i2l (q := 3) dX7_tide_2 rfl ?_
  refine st_lconst (q := 4) dX7_tide_3 rfl lc_0 ?_
  refine st_ldc2 (q := 7) dX7_tide_4 rfl cn_X7_104 ?_
  refine sp_S3 (q := 10) (M' := mX7_in) dX7_tide_7 rfl ok_X7_in mk_X7_in ml_X7_46 ⟨Nat.le_of_ble_eq_true rfl, Nat.le_of_ble_eq_true rfl⟩ rfl (Nat.le_of_ble_eq_true rfl) ⟨rfl, rfl⟩ (c_X7_inI (a := 0) (c := 6) (by decide) (by decide)) ?_
  refine st_if_eq (q := 13) (tgt := 29) dX7_tide_10 rfl rfl (fun c_10 => ?_) (fun c_10 => ?_)
  · refine st_iconst (q := 30) dX7_tide_29 rfl ic_0 ?_
    refine st_bipush (q := 32) dX7_tide_30 rfl bp_60 ?_
    refine st_iload_n (q := 33) dX7_tide_32 rfl rfl rfl ?_
    refine st_iadd (q := 34) dX7_tide_33 rfl ?_
    refine st_iload_n (q := 35) dX7_tide_34 rfl rfl rfl ?_
    refine st_iconst (q := 36) dX7_tide_35 rfl ic_4 ?_
    refine sm_V4 (q := 39) (M' := mX7_puts) dX7_tide_36 rfl ok_X7_puts mk_X7_puts ml_X7_181 ⟨Nat.le_of_ble_eq_true rfl, Nat.le_of_ble_eq_true rfl⟩ rfl (Nat.le_of_ble_eq_true rfl) (g_rv hM rfl) ⟨rfl, rfl⟩ (c_X7_puts Fr.rf hM (by first | exact (fun z => absurd rfl z) | exact (fun _ => by obtain ⟨j, hj, ej⟩ := inI_k (k := 6) (zI_1.mp c_10) (by decide); exact vp_nI (a := 60 + j) (by rw [ej, ← nI_add]; rfl) (by omega) (by decide)))) ?_
    intro _ n w h9 _
    obtain ⟨rfl, rfl, hM, hF_⟩ := h9
    replace hF := Fr.tr hF hF_
    refine st_ireturn dX7_tide_39 rfl ?_
    first
      | (rw [mpuF, if_pos rfl] at hM; exact ⟨by rw [if_pos rfl, tideS, if_neg (by rw [zI_0.mp c_10]; decide)], rfl, by rw [mtiF, if_neg (by rw [zI_0.mp c_10]; decide)]; exact hM, hF⟩)
      | (rw [mpuF, if_pos rfl] at hM; exact ⟨by rw [if_pos rfl, tideS, if_pos (zI_1.mp c_10), if_neg (by rw [zI_0.mp c_22]; decide)], rfl, by rw [mtiF, if_pos (zI_1.mp c_10), if_neg (by rw [zI_0.mp c_22]; decide)]; exact hM, hF⟩)
      | (obtain ⟨j, hj, ej⟩ := inI_k (k := 6) (zI_1.mp c_10) (by decide)
         have h60 : ((60 : Int32) + x).toNatClampNeg = 60 + x.toNatClampNeg := by rw [ej, nI_clamp (by omega), show (60 : Int32) = nI 60 from rfl, nI_add, nI_clamp (by omega)]
         have hjx : x.toNatClampNeg < 7 := by rw [ej, nI_clamp (by omega)]; omega
         rw [mpuF, if_neg (by decide), h60] at hM
         refine ⟨?_, rfl, by rw [mtiF, if_pos (zI_1.mp c_10), if_pos (zI_1.mp c_22)]; exact hM, hF⟩
         rw [if_neg (by decide), h60, tideS, if_pos (zI_1.mp c_10), if_pos (zI_1.mp c_22), hr _ hjx])
  · refine st_iload_n (q := 14) dX7_tide_13 rfl rfl rfl ?_
    refine st_i2l (q := 15) dX7_tide_14 rfl ?_
    refine st_lconst (q := 16) dX7_tide_15 rfl lc_0 ?_
    refine st_ldc2 (q := 19) dX7_tide_16 rfl cn_X7_187 ?_
    refine sp_S3 (q := 22) (M' := mX7_in) dX7_tide_19 rfl ok_X7_in mk_X7_in ml_X7_46 ⟨Nat.le_of_ble_eq_true rfl, Nat.le_of_ble_eq_true rfl⟩ rfl (Nat.le_of_ble_eq_true rfl) ⟨rfl, rfl⟩ (c_X7_inI (a := 0) (c := 8) (by decide) (by decide)) ?_
    refine st_if_eq (q := 25) (tgt := 29) dX7_tide_22 rfl rfl (fun c_22 => ?_) (fun c_22 => ?_)
    · refine st_iconst (q := 30) dX7_tide_29 rfl ic_0 ?_
      refine st_bipush (q := 32) dX7_tide_30 rfl bp_60 ?_
      refine st_iload_n (q := 33) dX7_tide_32 rfl rfl rfl ?_
      refine st_iadd (q := 34) dX7_tide_33 rfl ?_
      refine st_iload_n (q := 35) dX7_tide_34 rfl rfl rfl ?_
      refine st_iconst (q := 36) dX7_tide_35 rfl ic_4 ?_
      refine sm_V4 (q := 39) (M' := mX7_puts) dX7_tide_36 rfl ok_X7_puts mk_X7_puts ml_X7_181 ⟨Nat.le_of_ble_eq_true rfl, Nat.le_of_ble_eq_true rfl⟩ rfl (Nat.le_of_ble_eq_true rfl) (g_rv hM rfl) ⟨rfl, rfl⟩ (c_X7_puts Fr.rf hM (by first | exact (fun z => absurd rfl z) | exact (fun _ => by obtain ⟨j, hj, ej⟩ := inI_k (k := 6) (zI_1.mp c_10) (by decide); exact vp_nI (a := 60 + j) (by rw [ej, ← nI_add]; rfl) (by omega) (by decide)))) ?_
      intro _ n w h9 _
      obtain ⟨rfl, rfl, hM, hF_⟩ := h9
      replace hF := Fr.tr hF hF_
      refine st_ireturn dX7_tide_39 rfl ?_
      first
        | (rw [mpuF, if_pos rfl] at hM; exact ⟨by rw [if_pos rfl, tideS, if_neg (by rw [zI_0.mp c_10]; decide)], rfl, by rw [mtiF, if_neg (by rw [zI_0.mp c_10]; decide)]; exact hM, hF⟩)
        | (rw [mpuF, if_pos rfl] at hM; exact ⟨by rw [if_pos rfl, tideS, if_pos (zI_1.mp c_10), if_neg (by rw [zI_0.mp c_22]; decide)], rfl, by rw [mtiF, if_pos (zI_1.mp c_10), if_neg (by rw [zI_0.mp c_22]; decide)]; exact hM, hF⟩)
        | (obtain ⟨j, hj, ej⟩ := inI_k (k := 6) (zI_1.mp c_10) (by decide)
           have h60 : ((60 : Int32) + x).toNatClampNeg = 60 + x.toNatClampNeg := by rw [ej, nI_clamp (by omega), show (60 : Int32) = nI 60 from rfl, nI_add, nI_clamp (by omega)]
           have hjx : x.toNatClampNeg < 7 := by rw [ej, nI_clamp (by omega)]; omega
           rw [mpuF, if_neg (by decide), h60] at hM
           refine ⟨?_, rfl, by rw [mtiF, if_pos (zI_1.mp c_10), if_pos (zI_1.mp c_22)]; exact hM, hF⟩
           rw [if_neg (by decide), h60, tideS, if_pos (zI_1.mp c_10), if_pos (zI_1.mp c_22), hr _ hjx])
    · refine st_iconst (q := 26) dX7_tide_25 rfl ic_1 ?_
      refine st_goto (q := 30) dX7_tide_26 rfl ?_
      refine st_bipush (q := 32) dX7_tide_30 rfl bp_60 ?_
      refine st_iload_n (q := 33) dX7_tide_32 rfl rfl rfl ?_
      refine st_iadd (q := 34) dX7_tide_33 rfl ?_
      refine st_iload_n (q := 35) dX7_tide_34 rfl rfl rfl ?_
      refine st_iconst (q := 36) dX7_tide_35 rfl ic_4 ?_
      refine sm_V4 (q := 39) (M' := mX7_puts) dX7_tide_36 rfl ok_X7_puts mk_X7_puts ml_X7_181 ⟨Nat.le_of_ble_eq_true rfl, Nat.le_of_ble_eq_true rfl⟩ rfl (Nat.le_of_ble_eq_true rfl) (g_rv hM rfl) ⟨rfl, rfl⟩ (c_X7_puts Fr.rf hM (by first | exact (fun z => absurd rfl z) | exact (fun _ => by obtain ⟨j, hj, ej⟩ := inI_k (k := 6) (zI_1.mp c_10) (by decide); exact vp_nI (a := 60 + j) (by rw [ej, ← nI_add]; rfl) (by omega) (by decide)))) ?_
      intro _ n w h9 _
      obtain ⟨rfl, rfl, hM, hF_⟩ := h9
      replace hF := Fr.tr hF hF_
      refine st_ireturn dX7_tide_39 rfl ?_
      first
        | (rw [mpuF, if_pos rfl] at hM; exact ⟨by rw [if_pos rfl, tideS, if_neg (by rw [zI_0.mp c_10]; decide)], rfl, by rw [mtiF, if_neg (by rw [zI_0.mp c_10]; decide)]; exact hM, hF⟩)
        | (rw [mpuF, if_pos rfl] at hM; exact ⟨by rw [if_pos rfl, tideS, if_pos (zI_1.mp c_10), if_neg (by rw [zI_0.mp c_22]; decide)], rfl, by rw [mtiF, if_pos (zI_1.mp c_10), if_neg (by rw [zI_0.mp c_22]; decide)]; exact hM, hF⟩)
        | (obtain ⟨j, hj, ej⟩ := inI_k (k := 6) (zI_1.mp c_10) (by decide)
           have h60 : ((60 : Int32) + x).toNatClampNeg = 60 + x.toNatClampNeg := by rw [ej, nI_clamp (by omega), show (60 : Int32) = nI 60 from rfl, nI_add, nI_clamp (by omega)]
           have hjx : x.toNatClampNeg < 7 := by rw [ej, nI_clamp (by omega)]; omega
           rw [mpuF, if_neg (by decide), h60] at hM
           refine ⟨?_, rfl, by rw [mtiF, if_pos (zI_1.mp c_10), if_pos (zI_1.mp c_22)]; exact hM, hF⟩
           rw [if_neg (by decide), h60, tideS, if_pos (zI_1.mp c_10), if_pos (zI_1.mp c_22), hr _ hjx])
set_option maxRecDepth 100000 in
set_option maxHeartbeats 4000000 in
theorem c_X7_blow {E : ev_E} {n : Nat} {w : ev_W} {S : gT} {f : Nat → Int32} {w0 : ev_W} (hF : Fr 70 82 w0 w) (hM : MR S f 70 n w) {T : gT} {nh nt dd : Nat} (hQ : RQ T f 0 nh nt dd) (e1 : S 1 0 = nI nh) (e2 : S 2 0 = nI nt) {x : Int32} : Ct E mX7_blow [.ref 70, .int x] n w (ev_mr ((blowS T x).1) n w0 (MR S (mblF f x) 70 n)) := by
  refine Ct.of 0 (by decide) (Nat.le_of_ble_eq_true rfl) rfl ?_
  have hw9 := hQ.2.1
  rw [Nat.zero_add] at hw9
  refine st_aload_n (q := 1) dX7_blow_0 rfl rfl rfl ?_
  refine st_iload_n (q := 2) dX7_blow_1 rfl rfl rfl ?_
  refine st_i2l (q := 3) dX7_blow_2 rfl ?_
  refine st_lconst (q := 4) dX7_blow_3 rfl lc_0 ?_
  refine st_ldc2 (q := 7) dX7_blow_4 rfl cn_X7_187 ?_
  refine sp_S3 (q := 10) (M' := mX7_in) dX7_blow_7 rfl ok_X7_in mk_X7_in ml_X7_46 ⟨Nat.le_of_ble_eq_true rfl, Nat.le_of_ble_eq_true rfl⟩ rfl (Nat.le_of_ble_eq_true rfl) ⟨rfl, rfl⟩ (c_X7_inI (a := 0) (c := 8) (by decide) (by decide)) ?_
  refine st_bipush (q := 12) dX7_blow_10 rfl bp_67 ?_
  refine st_iload_n (q := 13) dX7_blow_12 rfl rfl rfl ?_
  refine st_iconst (q := 14) dX7_blow_13 rfl ic_4 ?_
  refine sm_V4 (q := 17) (M' := mX7_puts) dX7_blow_14 rfl ok_X7_puts mk_X7_puts ml_X7_181 ⟨Nat.le_of_ble_eq_true rfl, Nat.le_of_ble_eq_true rfl⟩ rfl (Nat.le_of_ble_eq_true rfl) (g_rv hM rfl) ⟨rfl, rfl⟩ (c_X7_puts Fr.rf hM (fun _ => vp_nI (a := 67) rfl (by decide) (by decide))) ?_
  intro _ n w h9 _
  obtain ⟨rfl, rfl, hM, hF_⟩ := h9
  replace hF := Fr.tr hF hF_
  refine st_ireturn dX7_blow_17 rfl ?_
  by_cases h : inI x 0 8 = true
  · rw [mpuF, if_neg (by rw [h]; decide)] at hM
    exact ⟨by rw [if_neg (by rw [h]; decide), blowS, if_pos h, hw9]; rfl, rfl, by rw [mblF, if_pos h]; exact hM, hF⟩
  · have h' : inI x 0 8 = false := by simpa using h
    rw [mpuF, if_pos (by rw [h']; rfl)] at hM
    exact ⟨by rw [if_pos (by rw [h']; rfl), blowS, if_neg h], rfl, by rw [mblF, if_neg h]; exact hM, hF⟩
theorem RP.w14 {T : gT} {f : Nat → Int32} {nh nt : Nat} {u v : Int32} (h : RP T f 0 nh nt) : RP (tup T 14 0 u) (upd f 67 v) 0 nh nt := by
  have hnh := h.hnh
  have hnt := h.hnt
  have e : ∀ a i, a + i < 71 → a + i ≠ 67 → upd f 67 v (0 + a + i) = f (0 + a + i) := fun a i _ h2 => pk_un (by omega)
  refine ⟨hnh, hnt, h.e0, h.e6, fun k hk => ?_, fun k hk => ?_, fun k hk => ?_, fun k hk => ?_, fun k hk => ?_, fun d hd => ?_, ?_, h.lv.2, ?_, ?_, h.so.2⟩
  · have := h.hs hk
    unfold RH at *
    rw [show upd f 67 v (0 + k) = f (0 + k) from pk_un (by omega), e 4 k (by omega) (by omega), e 8 k (by omega) (by omega), e 12 k (by omega) (by omega), e 16 k (by omega) (by omega)]
    exact this
  · have := h.is hk
    unfold RI at *
    rw [e 20 k (by omega) (by omega), e 28 k (by omega) (by omega), e 36 k (by omega) (by omega), e 44 k (by omega) (by omega), e 52 k (by omega) (by omega)]
    exact this
  · show bt (T 5 0) k = _
    rw [h.b5 k hk]
    by_cases z : k < nh
    · simp only [e 16 k (by omega) (by omega)]
    · simp [z]
  · show bt (T 11 0) k = _
    rw [h.b11 k hk]
    by_cases z : k < nt
    · simp only [e 52 k (by omega) (by omega)]
    · simp [z]
  · show bt (T 12 0) k = _
    rw [h.b12 k hk]
    by_cases z : k < nt
    · simp only [e 52 k (by omega) (by omega)]
    · simp [z]
  · rw [e 60 d (by omega) (by omega)]; exact h.ri hd
  · exact h.lv.1
  · exact h.da
  · exact h.so.1
theorem RQ.blow {T : gT} {f : Nat → Int32} {nh nt dd : Nat} (h : RQ T f 0 nh nt dd) (x : Int32) : RQ (blowS T x).2 (mblF f x) 0 nh nt dd := by
  unfold blowS mblF
  by_cases a : inI x 0 8 = true
  · rw [if_pos a, if_pos a]
    obtain ⟨v, hv, rfl⟩ := inI_k (k := 8) a (by decide)
    refine ⟨h.1.w14, ?_, ?_, h.2.2.2⟩
    · show tup T 14 0 (nI v) 14 0 = _
      rw [tup_s, pk_us, Nat.zero_add, pk_us, Int32.sub_add_cancel]
    · show rg (tup T 14 0 (nI v) 14 0) 0 8
      rw [tup_s, pk_us]; exact rg_of (m := 8) hv (by decide)
  · rw [if_neg a, if_neg a]; exact h
