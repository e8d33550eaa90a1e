def mpuF (f : Nat → Int32) (c x v l : Int32) : Nat → Int32 := if c = 0 then f else upd f x.toNatClampNeg (v - l)
set_option maxRecDepth 100000 in
set_option maxHeartbeats 4000000 in
theorem c_X7_puts {E : ev_E} {n : Nat} {w : ev_W} {S : gT} {f : Nat → Int32} {w0 : ev_W} (hF : Fr 60 72 w0 w) (hM : MR S f 60 n w) {c x v l : Int32} (hx : ¬ c = 0 → vp_in x 426) : Ct E mX7_puts [.ref 60, .int c, .int x, .int v, .int l] n w (ev_mr (if c = 0 then -1 else f x.toNatClampNeg + l) n w0 (MR S (mpuF f c x v l) 60 n)) := by
  refine Ct.of 1 (by decide) (Nat.le_of_ble_eq_true rfl) rfl ?_
  refine st_iload_n (q := 1) dX7_puts_0 rfl rfl rfl ?_
  refine st_if_ne (q := 4) (tgt := 6) dX7_puts_1 rfl rfl (fun c_1 => ?_) (fun c_1 => ?_)
  · refine st_aload_n (q := 7) dX7_puts_6 rfl rfl rfl ?_
    refine g_getA (q := 10) dX7_puts_7 rfl fl_X7_7.g hM rfl ?_
    refine st_iload_n (q := 11) dX7_puts_10 rfl rfl rfl ?_
    refine m_sld (q := 12) dX7_puts_11 rfl hM (by exact ⟨hx c_1, rfl⟩) ?_
    refine st_iload (q := 14) dX7_puts_12 rfl rfl ?_
    refine st_iadd (q := 15) dX7_puts_14 rfl ?_
    refine st_istore (q := 17) (L' := [_, _, _, _, _, _]) dX7_puts_15 rfl (Nat.le_of_ble_eq_true rfl) rfl ?_
    refine st_aload_n (q := 18) dX7_puts_17 rfl rfl rfl ?_
    refine g_getA (q := 21) dX7_puts_18 rfl fl_X7_7.g hM rfl ?_
    refine st_iload_n (q := 22) dX7_puts_21 rfl rfl rfl ?_
    refine st_iload_n (q := 23) dX7_puts_22 rfl rfl rfl ?_
    refine st_iload (q := 25) dX7_puts_23 rfl rfl ?_
    refine st_isub (q := 26) dX7_puts_25 rfl ?_
    refine m_sst (q := 27) dX7_puts_26 rfl hM (by exact ⟨hx c_1, rfl⟩) (fun w hM hF_ => ?_)
    replace hF := Fr.tr hF hF_
    refine st_iload (q := 29) dX7_puts_27 rfl rfl ?_
    refine st_ireturn dX7_puts_29 rfl ?_
    first
      | exact ⟨by rw [if_pos c_1], rfl, by rw [mpuF, if_pos c_1]; exact hM, hF⟩
      | exact ⟨by rw [if_neg c_1], rfl, by rw [mpuF, if_neg c_1]; exact hM, hF⟩
  · refine st_iconst (q := 5) dX7_puts_4 rfl ic_m1 ?_
    refine st_ireturn dX7_puts_5 rfl ?_
    first
      | exact ⟨by rw [if_pos c_1], rfl, by rw [mpuF, if_pos c_1]; exact hM, hF⟩
      | exact ⟨by rw [if_neg c_1], rfl, by rw [mpuF, if_neg c_1]; exact hM, hF⟩
theorem i32_s0 (x : Int32) : x - 0 = x := Int32.sub_zero x
theorem vp_nI {x : Int32} {a N : Nat} (e : x = nI a) (h : a < N) (hN : N < 2 ^ 31) : vp_in x N := by subst e; exact vp_in_nI h hN
def mtiF (f : Nat → Int32) (x y : Int32) : Nat → Int32 := if inI x 0 6 = true then (if inI y 0 8 = true then upd f (60 + x.toNatClampNeg) (y - 4) else f) else f
def mblF (f : Nat → Int32) (x : Int32) : Nat → Int32 := if inI x 0 8 = true then upd f 67 (x - 4) else f
theorem RQ.tide {T : gT} {f : Nat → Int32} {nh nt dd : Nat} (h : RQ T f 0 nh nt dd) (x y : Int32) : RQ (tideS T x y).2 (mtiF f x y) 0 nh nt dd := by
  unfold tideS mtiF
  by_cases a : inI x 0 6 = true
  · rw [if_pos a, if_pos a]
    by_cases b : inI y 0 8 = true
    · rw [if_pos b, if_pos b]
      obtain ⟨j, hj, rfl⟩ := inI_k (k := 6) a (by decide)
      obtain ⟨v, hv, rfl⟩ := inI_k (k := 8) b (by decide)
      rw [nI_clamp (by omega)]
      have k := h.1.set13 (k := j) (by omega) (v := nI v) (x := nI v - 4) (rg_of (m := 8) hv (by decide)) (by rw [Int32.sub_add_cancel])
      rw [Nat.zero_add] at k
      refine ⟨k, ?_, h.2.2.1, h.2.2.2⟩
      rw [pk_un (by omega)]; exact h.2.1
    · rw [if_neg b, if_neg b]; exact h
  · rw [if_neg a, if_neg a]; exact h
