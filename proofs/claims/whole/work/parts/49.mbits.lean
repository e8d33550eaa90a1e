-- how many bits
theorem bt_nI {M i : Nat} (hi : i < 32) : bt (nI M) i = M.testBit i := by
  show (BitVec.ofNat 32 M).getLsbD i = _
  rw [BitVec.getLsbD_ofNat, decide_eq_true hi, Bool.true_and]
theorem nI_ush {M k : Nat} (h : M < 2 ^ 32) (hk : k < 32) : ((nI M).toUInt32 >>> ((nI k).toUInt32 &&& Int32.toUInt32 31)).toInt32 = nI (M >>> k) := by
  refine b_ext (fun i hi => ?_)
  rw [b_ushr k hk, bt_nI hi, Nat.testBit_shiftRight]
  by_cases z : k + i < 32
  · rw [bt_nI z]
  · rw [b_big (by omega), Nat.testBit_lt_two_pow (Nat.lt_of_lt_of_le h (Nat.pow_le_pow_right (by decide) (by omega)))]
theorem nI_sshr1 {M : Nat} (h : M < 2 ^ 31) : nI M >>> ((1 : Int32) &&& 31) = nI (M >>> 1) := by
  refine b_ext (fun i hi => ?_)
  rw [show (1 : Int32) = nI 1 from rfl, b_sshr 1 (by decide) _ hi, bt_nI hi, Nat.testBit_shiftRight]
  by_cases z : 1 + i < 32
  · rw [if_pos z, bt_nI z]
  · rw [if_neg z, bt_nI (by decide), Nat.testBit_lt_two_pow h, Nat.testBit_lt_two_pow (Nat.lt_of_lt_of_le h (Nat.pow_le_pow_right (by decide) (by omega)))]
theorem nx_or (a b : Nat) : nI a ||| nI b = nI (a ||| b) := b_ext (fun i hi => by rw [b_or, bt_nI hi, bt_nI hi, bt_nI hi, Nat.testBit_or])
def pcA (N : Nat) : Nat := N - ((N >>> 1) &&& 1431655765)
def pcB (a : Nat) : Nat := (a &&& 858993459) + ((a >>> 2) &&& 858993459)
def pcC (b : Nat) : Nat := (b + (b >>> 4)) &&& 252645135
theorem pcA_nI {N : Nat} (h : N < 2 ^ 32) : nI N - (((nI N).toUInt32 >>> ((1 : Int32).toUInt32 &&& Int32.toUInt32 31)).toInt32 &&& 1431655765) = nI (pcA N) := by
  rw [show ((nI N).toUInt32 >>> ((1 : Int32).toUInt32 &&& Int32.toUInt32 31)).toInt32 = nI (N >>> 1) from nI_ush (k := 1) h (by decide), show (1431655765 : Int32) = nI 1431655765 from rfl, nx_and, nI_sb]
  · rfl
  · have h1 : (N >>> 1) &&& 1431655765 ≤ N >>> 1 := Nat.and_le_left
    rw [Nat.shiftRight_eq_div_pow] at *
    omega
theorem pcB_nI {N : Nat} (h : N < 2 ^ 32) : (nI N &&& 858993459) + (((nI N).toUInt32 >>> ((2 : Int32).toUInt32 &&& Int32.toUInt32 31)).toInt32 &&& 858993459) = nI (pcB N) := by
  rw [show ((nI N).toUInt32 >>> ((2 : Int32).toUInt32 &&& Int32.toUInt32 31)).toInt32 = nI (N >>> 2) from nI_ush (k := 2) h (by decide), show (858993459 : Int32) = nI 858993459 from rfl, nx_and, nx_and, nI_add]
  rfl
theorem pcC_nI {N : Nat} (h : N < 2 ^ 32) : (nI N + ((nI N).toUInt32 >>> ((4 : Int32).toUInt32 &&& Int32.toUInt32 31)).toInt32) &&& 252645135 = nI (pcC N) := by
  rw [show ((nI N).toUInt32 >>> ((4 : Int32).toUInt32 &&& Int32.toUInt32 31)).toInt32 = nI (N >>> 4) from nI_ush (k := 4) h (by decide), show (252645135 : Int32) = nI 252645135 from rfl, nI_add, nx_and]
  rfl
theorem pcD_nI {N : Nat} (h : N < 2 ^ 32) : nI N + ((nI N).toUInt32 >>> ((8 : Int32).toUInt32 &&& Int32.toUInt32 31)).toInt32 = nI (N + N >>> 8) := by
  rw [show ((nI N).toUInt32 >>> ((8 : Int32).toUInt32 &&& Int32.toUInt32 31)).toInt32 = nI (N >>> 8) from nI_ush (k := 8) h (by decide), nI_add]
theorem pcE_nI {N : Nat} (h : N < 2 ^ 32) : nI N + ((nI N).toUInt32 >>> ((16 : Int32).toUInt32 &&& Int32.toUInt32 31)).toInt32 = nI (N + N >>> 16) := by
  rw [show ((nI N).toUInt32 >>> ((16 : Int32).toUInt32 &&& Int32.toUInt32 31)).toInt32 = nI (N >>> 16) from nI_ush (k := 16) h (by decide), nI_add]
def pcN (N : Nat) : Nat := (pcC (pcB (pcA N)) + pcC (pcB (pcA N)) >>> 8 + (pcC (pcB (pcA N)) + pcC (pcB (pcA N)) >>> 8) >>> 16) &&& 63
theorem bc_nat {N : Nat} (h : N < 2 ^ 32) : bcI (nI N) = nI (pcN N) := by
  have ha : pcA N < 2 ^ 32 := by unfold pcA; omega
  have hb : pcB (pcA N) < 2 ^ 32 := by
    unfold pcB
    have h1 : pcA N &&& 858993459 ≤ 858993459 := Nat.and_le_right
    have h2 : (pcA N >>> 2) &&& 858993459 ≤ 858993459 := Nat.and_le_right
    omega
  have hc : pcC (pcB (pcA N)) ≤ 252645135 := by unfold pcC; exact Nat.and_le_right
  have hd : pcC (pcB (pcA N)) + pcC (pcB (pcA N)) >>> 8 < 2 ^ 32 := by rw [Nat.shiftRight_eq_div_pow]; omega
  unfold bcI
  dsimp only
  rw [pcA_nI h, pcB_nI ha, pcC_nI hb, pcD_nI (by omega), pcE_nI hd, show (63 : Int32) = nI 63 from rfl, nx_and]
  rfl
def mkM (c : Nat) : Nat → Nat
  | 0 => 0
  | k + 1 => c + 256 * mkM c k
theorem tb_sp {a : Nat} (ha : a < 256) (b i : Nat) : (a + 256 * b).testBit i = if i < 8 then a.testBit i else b.testBit (i - 8) := by
  have := Nat.testBit_two_pow_mul_add b (b := a) (i := 8) ha i
  rw [Nat.add_comm] at this
  exact this
theorem and_sp {l m : Nat} (hl : l < 256) (hm : m < 256) (h M : Nat) : (l + 256 * h) &&& (m + 256 * M) = (l &&& m) + 256 * (h &&& M) := by
  apply Nat.eq_of_testBit_eq
  intro i
  have hlm : l &&& m < 256 := Nat.and_lt_two_pow (n := 8) l hm
  rw [Nat.testBit_and, tb_sp hl, tb_sp hm, tb_sp hlm]
  by_cases z : i < 8
  · rw [if_pos z, if_pos z, if_pos z, Nat.testBit_and]
  · rw [if_neg z, if_neg z, if_neg z, Nat.testBit_and]
def a8 (l : Nat) : Nat := l - (l / 2 &&& 85)
def b8 (l : Nat) : Nat := (l &&& 51) + (l / 4 &&& 51)
def c8 (l : Nat) : Nat := (l + l / 16) &&& 15
theorem a8_t : ∀ l, l < 256 → ∀ b, b < 2 → (l / 2 + 128 * b) &&& 85 = l / 2 &&& 85 := by decide +kernel
theorem a8_l : ∀ l, l < 256 → l / 2 &&& 85 ≤ l := by decide +kernel
theorem b8_t : ∀ l, l < 256 → ∀ b, b < 4 → (l / 4 + 64 * b) &&& 51 = l / 4 &&& 51 := by decide +kernel
theorem c8_t : ∀ l, l < 69 → ∀ b, b < 5 → (l + l / 16 + 16 * b) &&& 15 = (l + l / 16) &&& 15 := by decide +kernel
theorem p8_t : ∀ l, l < 256 → a8 l < 256 ∧ b8 (a8 l) < 69 ∧ b8 (a8 l) % 16 < 5 ∧ c8 (b8 (a8 l)) = cntN l 8 ∧ cntN l 8 ≤ 8 := by decide +kernel
def Ak (k N : Nat) : Nat := N - ((N >>> 1) &&& mkM 85 k)
def Bk (k N : Nat) : Nat := (N &&& mkM 51 k) + ((N >>> 2) &&& mkM 51 k)
def Ck (k N : Nat) : Nat := (N + (N >>> 4)) &&& mkM 15 k
theorem Ak_s {l : Nat} (hl : l < 256) (k h : Nat) : Ak (k + 1) (l + 256 * h) = a8 l + 256 * Ak k h := by
  unfold Ak a8
  rw [mkM, Nat.shiftRight_eq_div_pow, Nat.shiftRight_eq_div_pow, show (l + 256 * h) / 2 ^ 1 = l / 2 + 128 * (h % 2) + 256 * (h / 2 ^ 1) from by omega, and_sp (by omega) (by decide), a8_t l hl _ (by omega)]
  have h1 := a8_l l hl
  have h2 : h / 2 ^ 1 &&& mkM 85 k ≤ h / 2 ^ 1 := Nat.and_le_left
  omega
theorem Bk_s {l : Nat} (hl : l < 256) (k h : Nat) : Bk (k + 1) (l + 256 * h) = b8 l + 256 * Bk k h := by
  unfold Bk b8
  rw [mkM, Nat.shiftRight_eq_div_pow, Nat.shiftRight_eq_div_pow, show (l + 256 * h) / 2 ^ 2 = l / 4 + 64 * (h % 4) + 256 * (h / 2 ^ 2) from by omega, and_sp hl (by decide), and_sp (by omega) (by decide), b8_t l hl _ (by omega)]
  omega
theorem Ck_s {l h : Nat} (hl : l < 69) (hh : h % 16 < 5) (k : Nat) : Ck (k + 1) (l + 256 * h) = c8 l + 256 * Ck k h := by
  unfold Ck c8
  rw [mkM, Nat.shiftRight_eq_div_pow, Nat.shiftRight_eq_div_pow, show l + 256 * h + (l + 256 * h) / 2 ^ 4 = l + l / 16 + 16 * (h % 16) + 256 * (h + h / 2 ^ 4) from by omega, and_sp (by omega) (by decide), c8_t l hl _ hh]
theorem cnt_lo {l : Nat} (h : Nat) : ∀ k, k ≤ 8 → cntN (l + 256 * h) k = cntN l k
  | 0, _ => rfl
  | k + 1, hk => by
    have e : ((l + 256 * h) >>> k) % 2 = (l >>> k) % 2 := by
      rw [Nat.shiftRight_eq_div_pow, Nat.shiftRight_eq_div_pow]
      match k, hk with
      | 0, _ => omega
      | 1, _ => omega
      | 2, _ => omega
      | 3, _ => omega
      | 4, _ => omega
      | 5, _ => omega
      | 6, _ => omega
      | 7, _ => omega
    rw [cntN, cntN, cnt_lo h k (by omega), e]
theorem cnt_sp {l : Nat} (hl : l < 256) (h : Nat) : ∀ k, cntN (l + 256 * h) (8 + k) = cntN l 8 + cntN h k
  | 0 => cnt_lo h 8 (Nat.le_refl _)
  | k + 1 => by
    have e : (l + 256 * h) >>> (8 + k) = h >>> k := by
      rw [Nat.shiftRight_add, Nat.shiftRight_eq_div_pow _ 8, show (l + 256 * h) / 2 ^ 8 = h from by omega]
    show cntN (l + 256 * h) (8 + k) + ((l + 256 * h) >>> (8 + k)) % 2 = cntN l 8 + (cntN h k + (h >>> k) % 2)
    rw [cnt_sp hl h k, e, Nat.add_assoc]
theorem pc_fin {p0 p1 p2 p3 : Nat} (h0 : p0 ≤ 8) (h1 : p1 ≤ 8) (h2 : p2 ≤ 8) (h3 : p3 ≤ 8) : (p0 + 256 * (p1 + 256 * (p2 + 256 * (p3 + 256 * 0))) + (p0 + 256 * (p1 + 256 * (p2 + 256 * (p3 + 256 * 0)))) / 2 ^ 8 + (p0 + 256 * (p1 + 256 * (p2 + 256 * (p3 + 256 * 0))) + (p0 + 256 * (p1 + 256 * (p2 + 256 * (p3 + 256 * 0)))) / 2 ^ 8) / 2 ^ 16) % 2 ^ 6 = p0 + (p1 + (p2 + p3)) := by
  have q1 : (p0 + 256 * (p1 + 256 * (p2 + 256 * (p3 + 256 * 0)))) / 2 ^ 8 = p1 + 256 * p2 + 65536 * p3 := by omega
  rw [q1]
  have q2 : (p0 + 256 * (p1 + 256 * (p2 + 256 * (p3 + 256 * 0))) + (p1 + 256 * p2 + 65536 * p3)) / 2 ^ 16 = p2 + p3 + 256 * p3 := by omega
  rw [q2]
  omega
theorem pc_cnt {N : Nat} (h : N < 2 ^ 32) : pcN N = cntN N 32 := by
  obtain ⟨x0, x1, x2, x3, h0, h1, h2, h3, e⟩ : ∃ x0 x1 x2 x3, x0 < 256 ∧ x1 < 256 ∧ x2 < 256 ∧ x3 < 256 ∧ N = x0 + 256 * (x1 + 256 * (x2 + 256 * (x3 + 256 * 0))) :=
    ⟨N % 256, N / 256 % 256, N / 65536 % 256, N / 16777216, by omega, by omega, by omega, by omega, by omega⟩
  have t0 := p8_t x0 h0
  have t1 := p8_t x1 h1
  have t2 := p8_t x2 h2
  have t3 := p8_t x3 h3
  have ec : pcC (pcB (pcA N)) = cntN x0 8 + 256 * (cntN x1 8 + 256 * (cntN x2 8 + 256 * (cntN x3 8 + 256 * 0))) := by
    show Ck 4 (Bk 4 (Ak 4 N)) = _
    rw [e, Ak_s h0, Ak_s h1, Ak_s h2, Ak_s h3, show Ak 0 0 = 0 from rfl, Bk_s t0.1, Bk_s t1.1, Bk_s t2.1, Bk_s t3.1, show Bk 0 0 = 0 from rfl]
    rw [Ck_s t0.2.1 (by omega), Ck_s t1.2.1 (by omega), Ck_s t2.2.1 (by omega), Ck_s t3.2.1 (by omega), show Ck 0 0 = 0 from rfl, t0.2.2.2.1, t1.2.2.2.1, t2.2.2.2.1, t3.2.2.2.1]
  have en : cntN N 32 = cntN x0 8 + (cntN x1 8 + (cntN x2 8 + cntN x3 8)) := by
    have e3 := cnt_lo (l := x3) 0 8 (Nat.le_refl _)
    have e2 : cntN (x2 + 256 * (x3 + 256 * 0)) 16 = _ := cnt_sp h2 (x3 + 256 * 0) 8
    have e1 : cntN (x1 + 256 * (x2 + 256 * (x3 + 256 * 0))) 24 = _ := cnt_sp h1 (x2 + 256 * (x3 + 256 * 0)) 16
    have e0 : cntN (x0 + 256 * (x1 + 256 * (x2 + 256 * (x3 + 256 * 0)))) 32 = _ := cnt_sp h0 (x1 + 256 * (x2 + 256 * (x3 + 256 * 0))) 24
    rw [e]
    omega
  unfold pcN
  rw [ec, en, Nat.and_two_pow_sub_one_eq_mod _ 6, Nat.shiftRight_eq_div_pow, Nat.shiftRight_eq_div_pow]
  exact pc_fin t0.2.2.2.2 t1.2.2.2.2 t2.2.2.2.2 t3.2.2.2.2
theorem cnt_31 {N : Nat} (h : N < 2 ^ 31) : cntN N 32 = cntN N 31 := by
  have e : N >>> 31 = 0 := by rw [Nat.shiftRight_eq_div_pow]; omega
  show cntN N 31 + (N >>> 31) % 2 = _
  rw [e]; rfl
theorem bc_31 {N : Nat} (h : N < 2 ^ 31) : bcI (nI N) = nI (cntN N 31) := by rw [bc_nat (by omega), pc_cnt (by omega), cnt_31 h]
theorem cnt_hi {N i : Nat} (h : N >>> i = 0) : ∀ k, cntN N (i + k) = cntN N i
  | 0 => rfl
  | k + 1 => by
    have e : N >>> (i + k) = 0 := by rw [Nat.shiftRight_add, h]; exact Nat.zero_shiftRight k
    rw [← Nat.add_assoc, cntN, cnt_hi h k, e]; rfl
set_option maxRecDepth 100000 in
set_option maxHeartbeats 4000000 in
theorem c_X7_bitsOf {E : ev_E} {n : Nat} {w : ev_W} {N : Nat} (hN : N < 2 ^ 31) : Ct E mX7_bitsOf [.int (nI N)] n w (ev_is (some (.int (nI (cntN N 31)))) n w) := by
  refine Ct.of 2 (by decide) (Nat.le_of_ble_eq_true rfl) rfl ?_
  have lp : ∀ (k i : Nat), i + k = 31 → Ev E mX7_bitsOf 4 [some (.int (nI N)), some (.int (nI (cntN N i))), some (.int (nI (N >>> i)))] [] n w (0, 0) (ev_is (some (.int (nI (cntN N 31)))) n w) := by
    intro k
    induction k with
    | zero =>
      intro i hi
      obtain rfl : 31 = i := by omega
      have h31 : N >>> 31 = 0 := by rw [Nat.shiftRight_eq_div_pow]; omega
      refine st_iload_n (q := 5) dX7_bitsOf_4 rfl rfl rfl ?_
      refine st_if_le (q := 8) (tgt := 21) dX7_bitsOf_5 rfl rfl (fun c_5 => ?_) (fun c_5 => False.elim (c_5 (by rw [h31]; decide)))
      refine st_iload_n (q := 22) dX7_bitsOf_21 rfl rfl rfl ?_
      refine st_ireturn dX7_bitsOf_22 rfl ?_
      exact ⟨rfl, rfl, rfl⟩
    | succ k ih =>
      intro i hi
      refine st_iload_n (q := 5) dX7_bitsOf_4 rfl rfl rfl ?_
      refine st_if_le (q := 8) (tgt := 21) dX7_bitsOf_5 rfl rfl (fun c_5 => ?_) (fun c_5 => ?_)
      · refine st_iload_n (q := 22) dX7_bitsOf_21 rfl rfl rfl ?_
        refine st_ireturn dX7_bitsOf_22 rfl ?_
        have hz : N >>> i = 0 := by
          have := Int32.le_iff_toInt_le.mp c_5
          rw [nI_toInt (by have := Nat.shiftRight_le N i; omega), show (0 : Int32).toInt = 0 from rfl] at this
          generalize N >>> i = M9 at this ⊢
          omega
        have := cnt_hi hz (31 - i)
        rw [show i + (31 - i) = 31 from by omega] at this
        exact ⟨by rw [this], rfl, rfl⟩
      · have hlt : N >>> i < 2 ^ 31 := by have := Nat.shiftRight_le N i; omega
        refine st_iload_n (q := 9) dX7_bitsOf_8 rfl rfl rfl ?_
        refine st_iload_n (q := 10) dX7_bitsOf_9 rfl rfl rfl ?_
        refine st_iconst (q := 11) dX7_bitsOf_10 rfl ic_1 ?_
        refine st_iand (q := 12) dX7_bitsOf_11 rfl ?_
        rw [show nI (N >>> i) &&& 1 = nI ((N >>> i) % 2) from by rw [← Nat.and_one_is_mod, ← nx_and]; rfl]
        refine st_iadd (q := 13) dX7_bitsOf_12 rfl ?_
        rw [nI_add]
        refine st_istore_n (q := 14) (L' := [_, _, _]) dX7_bitsOf_13 rfl rfl (Nat.le_of_ble_eq_true rfl) rfl ?_
        refine st_iload_n (q := 15) dX7_bitsOf_14 rfl rfl rfl ?_
        refine st_iconst (q := 16) dX7_bitsOf_15 rfl ic_1 ?_
        refine st_ishr (q := 17) dX7_bitsOf_16 rfl ?_
        rw [nI_sshr1 hlt, ← Nat.shiftRight_add]
        refine st_istore_n (q := 18) (L' := [_, _, _]) dX7_bitsOf_17 rfl rfl (Nat.le_of_ble_eq_true rfl) rfl ?_
        refine st_goto (q := 4) dX7_bitsOf_18 rfl ?_
        exact ih (i + 1) (by omega)
  refine st_iconst (q := 1) dX7_bitsOf_0 rfl ic_0 ?_
  refine st_istore_n (q := 2) (L' := [_, _, _]) dX7_bitsOf_1 rfl rfl (Nat.le_of_ble_eq_true rfl) rfl ?_
  refine st_iload_n (q := 3) dX7_bitsOf_2 rfl rfl rfl ?_
  refine st_istore_n (q := 4) (L' := [_, _, _]) dX7_bitsOf_3 rfl rfl (Nat.le_of_ble_eq_true rfl) rfl ?_
  exact lp 31 0 (by omega)
theorem sh1_31 : ∀ k, k < 31 → (1 : Int32) <<< (nI k &&& 31) = nI (2 ^ k) := by decide +kernel
theorem bs_nat (p : Nat → Bool) : ∀ k, k ≤ 31 → ∃ N, N < 2 ^ k ∧ bsF p k = nI N
  | 0, _ => ⟨0, by decide, rfl⟩
  | k + 1, hk => by
    obtain ⟨N, hN, e⟩ := bs_nat p k (by omega)
    have h2 : 2 ^ k < 2 ^ (k + 1) := Nat.pow_lt_pow_right (by decide) (by omega)
    rw [bsF, e]
    by_cases z : p k = true
    · rw [if_pos z, sh1_31 k (by omega), nx_or]
      exact ⟨N ||| 2 ^ k, Nat.or_lt_two_pow (by omega) h2, rfl⟩
    · rw [if_neg z]
      exact ⟨N, by omega, by rw [show (0 : Int32) = nI 0 from rfl, nx_or, Nat.or_zero]⟩
-- counting
def cnN (p : Nat → Bool) : Nat → Nat
  | 0 => 0
  | k + 1 => cnN p k + (if p k = true then 1 else 0)
def kmx (g : Nat → Nat) : Nat → Nat
  | 0 => 0
  | r + 1 => if kmx g r < g r then g r else kmx g r
theorem cnN_le (p : Nat → Bool) : ∀ k, cnN p k ≤ k
  | 0 => Nat.le_refl _
  | k + 1 => by have := cnN_le p k; rw [cnN]; split <;> omega
theorem kmx_le {g : Nat → Nat} {m : Nat} : ∀ n, (∀ r, r < n → g r ≤ m) → kmx g n ≤ m
  | 0, _ => Nat.zero_le _
  | n + 1, h => by
    have h1 := kmx_le n (fun r hr => h r (by omega))
    have h2 := h n (by omega)
    rw [kmx]; split <;> omega
theorem le_kmx {g : Nat → Nat} {r : Nat} : ∀ n, r < n → g r ≤ kmx g n
  | 0, h => absurd h (Nat.not_lt_zero r)
  | n + 1, h => by
    rw [kmx]
    by_cases e : r = n
    · subst e; split <;> omega
    · have := le_kmx (g := g) n (show r < n from by omega)
      split <;> omega
theorem cnN_sh (p : Nat → Bool) : ∀ k, cnN p (k + 1) = (if p 0 = true then 1 else 0) + cnN (fun i => p (i + 1)) k
  | 0 => by rw [cnN, cnN, cnN]; omega
  | k + 1 => by rw [cnN, cnN_sh p k, cnN]; omega
theorem cnN_sp (p : Nat → Bool) (r : Nat) : ∀ k, cnN p (r + k) = cnN p r + cnN (fun i => p (r + i)) k
  | 0 => rfl
  | k + 1 => by rw [← Nat.add_assoc, cnN, cnN_sp p r k, cnN]; omega
theorem cnN_cg {p q : Nat → Bool} : ∀ k, (∀ i, i < k → p i = q i) → cnN p k = cnN q k
  | 0, _ => rfl
  | k + 1, h => by rw [cnN, cnN, cnN_cg k (fun i hi => h i (by omega)), h k (by omega)]
theorem cnN_ex {p : Nat → Bool} : ∀ k, 0 < cnN p k → ∃ i, i < k ∧ p i = true
  | 0, h => absurd h (Nat.lt_irrefl 0)
  | k + 1, h => by
    by_cases e : p k = true
    · exact ⟨k, by omega, e⟩
    · rw [cnN, if_neg e] at h
      obtain ⟨i, h1, h2⟩ := cnN_ex k h
      exact ⟨i, by omega, h2⟩
theorem cnN_fst {p : Nat → Bool} : ∀ k, 0 < cnN p k → ∃ i, i < k ∧ p i = true ∧ cnN p i = 0
  | 0, h => absurd h (Nat.lt_irrefl 0)
  | k + 1, h => by
    by_cases z : 0 < cnN p k
    · obtain ⟨i, h1, h2, h3⟩ := cnN_fst k z
      exact ⟨i, by omega, h2, h3⟩
    · by_cases e : p k = true
      · exact ⟨k, by omega, e, by omega⟩
      · rw [cnN, if_neg e] at h
        omega
theorem al_nat {U : gT} {op : Int32} {r d : Nat} : ∀ k, r + k ≤ 31 → alF U op r d k = nI (cnN (fun i => bt op (r + i) && decide (U 0 ((r + i) * 21 + d) = U 0 (r * 21 + d))) k)
  | 0, _ => rfl
  | k + 1, hk => by
    rw [alF, al_nat k (by omega), cnN, btI_bt op (by omega)]
    by_cases b : bt op (r + k) = true
    · rw [if_pos b, b, Bool.true_and]
      by_cases e : U 0 ((r + k) * 21 + d) = U 0 (r * 21 + d)
      · rw [if_pos e, if_pos (decide_eq_true e), nI_succ]
      · rw [if_neg e, if_neg (by simpa using e), Int32.add_zero]; rfl
    · rw [if_neg b, if_neg (by simp [b]), Int32.add_zero]; rfl
theorem mx_nat {a b : Nat} (ha : a < 2 ^ 31) (hb : b < 2 ^ 31) : mxI (nI a) (nI b) = nI (if a < b then b else a) := by
  unfold mxI
  by_cases h : a < b
  · rw [if_pos h, if_pos ((nI_ltiff ha hb).mpr h)]
  · rw [if_neg h, if_neg (fun z => h ((nI_ltiff ha hb).mp z))]
def gRk (s : Nat → Int32) (op : Int32) (r : Nat) : Nat := cnN (fun i => bt op (r + i) && decide (s (r + i) = s r)) (31 - r)
theorem lw_nat {U : gT} {op : Int32} {d : Nat} {s : Nat → Int32} (hs : ∀ k, U 0 (k * 21 + d) = s k) : ∀ k, k ≤ 31 → lwF U op d 31 k = nI (kmx (gRk s op) k)
  | 0, _ => rfl
  | k + 1, hk => by
    have h1 : kmx (gRk s op) k ≤ 31 := kmx_le k (fun r _ => Nat.le_trans (cnN_le _ _) (by omega))
    have h2 : gRk s op k ≤ 31 := Nat.le_trans (cnN_le _ _) (by omega)
    have e : alF U op k d (31 - k) = nI (gRk s op k) := by
      rw [al_nat (31 - k) (by omega)]
      simp only [hs]
      rfl
    rw [lwF, lw_nat hs k (by omega), e, mx_nat (by omega) (by omega), kmx]
def gAk (s : Nat → Int32) (op : Int32) (a : Nat) : Nat := if bt op a = true then cnN (fun b => bt op b && decide (s a = s b)) 31 else 0
theorem gA_le {s : Nat → Int32} {op : Int32} {a : Nat} : gAk s op a ≤ 31 := by
  unfold gAk; split
  · exact cnN_le _ _
  · omega
theorem gRA {s : Nat → Int32} {op : Int32} : kmx (gRk s op) 31 = kmx (gAk s op) 31 := by
  have sp : ∀ r x, r < 31 → s r = x → cnN (fun b => bt op b && decide (x = s b)) 31 = cnN (fun b => bt op b && decide (x = s b)) r + gRk s op r := by
    intro r x hr hx
    have e := cnN_sp (fun b => bt op b && decide (x = s b)) r (31 - r)
    rw [show r + (31 - r) = 31 from by omega] at e
    rw [e]
    unfold gRk
    congr 1
    refine cnN_cg _ (fun i _ => ?_)
    subst hx
    by_cases q : s r = s (r + i)
    · rw [decide_eq_true q, decide_eq_true q.symm]
    · rw [decide_eq_false q, decide_eq_false (fun z => q z.symm)]
  apply Nat.le_antisymm
  · refine kmx_le _ (fun r hr => ?_)
    by_cases z : 0 < gRk s op r
    · obtain ⟨i, hi, hp⟩ := cnN_ex _ z
      rw [Bool.and_eq_true, decide_eq_true_eq] at hp
      have h1 := le_kmx (g := gAk s op) (r := r + i) 31 (by omega)
      have h2 : gAk s op (r + i) = cnN (fun b => bt op b && decide (s (r + i) = s b)) 31 := by rw [gAk, if_pos hp.1]
      have h3 := sp r (s (r + i)) hr hp.2.symm
      omega
    · omega
  · refine kmx_le _ (fun a ha => ?_)
    by_cases z : 0 < gAk s op a
    · have hb : bt op a = true := by
        by_cases q : bt op a = true
        · exact q
        · rw [gAk, if_neg q] at z; omega
      have e : gAk s op a = cnN (fun b => bt op b && decide (s a = s b)) 31 := by rw [gAk, if_pos hb]
      rw [e] at z
      obtain ⟨r, hr, hp, h0⟩ := cnN_fst _ z
      rw [Bool.and_eq_true, decide_eq_true_eq] at hp
      have h1 := le_kmx (g := gRk s op) 31 hr
      have h2 := sp r (s a) hr hp.2.symm
      omega
    · omega
theorem lw_ask {T : gT} {dd nh nt j d : Nat} {op : Int32} (hd : d < 21) : lwF (fuT T dd nh nt j) op d 31 31 = nI (kmx (gAk (fun v => dysT (tup T 2 j (nI v)) dd nh nt d 17 0) op) 31) := by
  rw [lw_nat (s := fun v => dysT (tup T 2 j (nI v)) dd nh nt d 17 0) (fun k => fuT_at hd) 31 (Nat.le_refl _), gRA]
