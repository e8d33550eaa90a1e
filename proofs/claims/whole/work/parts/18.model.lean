abbrev MR (S : gT) (f : Nat → Int32) (b n : Nat) (w : ev_W) : Prop := GR 7 layX7 11 (rowT S 0 f) b n w
theorem ix2 {a b N : Nat} (h : a + b < N) (hN : N < 2 ^ 31) : ev_ix (nI a + nI b) N (a + b) := by rw [nI_add]; exact ev_ix_nI h hN
theorem ix3 {a b c N : Nat} (h : a + b + c < N) (hN : N < 2 ^ 31) : ev_ix (nI a + nI b + nI c) N (a + b + c) := by rw [nI_add, nI_add]; exact ev_ix_nI h hN
theorem rowT_tup {S : gT} {f : Nat → Int32} {i : Nat} {x : Int32} {j : Nat} (h : i ≠ 0) : tup (rowT S 0 f) i j x = rowT (tup S i j x) 0 f := by
  funext k
  unfold tup rowT
  by_cases h1 : k = 0
  · subst h1; rw [if_neg (Ne.symm h), if_pos rfl, if_pos rfl]
  · rw [if_neg h1, if_neg h1]
theorem rowT_sst {S : gT} {f : Nat → Int32} {j : Nat} {x : Int32} : tup (rowT S 0 f) 0 j x = rowT S 0 (upd f j x) := by
  funext k
  unfold tup rowT
  by_cases h1 : k = 0
  · subst h1; rw [if_pos rfl, if_pos rfl, if_pos rfl]
  · rw [if_neg h1, if_neg h1, if_neg h1]
section EVM
variable {E : ev_E} {M : ev_M} {pc q : Nat} {L : List (Option Value)} {st : List Value} {n : Nat} {w : ev_W} {cs : Nat × Nat} {Q : Option Value → Nat → ev_W → Prop} {S : gT} {f : Nat → Int32} {b : Nat}
theorem m_get {idx i : Nat} (d : decode (ev_cc M) pc = .ok (.getfield idx, 3)) (hq : pc + 3 = q) (fl : ev_FL (ev_y M).cls idx 7 i) (h : MR S f b n w) (h0 : i ≠ 0) (hi : gnth layX7 i = some (0, 0, 0, 0)) (kk : Ev E M q L (.int (S i 0) :: st) n w cs Q) : Ev E M pc L (.ref b :: st) n w cs Q :=
  g_get d hq fl h hi (by rw [rowT_n h0]; exact kk)
theorem m_put {idx i : Nat} {x : Int32} {t : FieldType} (d : decode (ev_cc M) pc = .ok (.putfield idx, 3)) (hq : pc + 3 = q) (fl : ev_FP (ev_y M).cls idx 7 i t) (h : MR S f b n w) (h0 : i ≠ 0) (hi : gnth layX7 i = some (0, 0, 0, 0)) (hnar : narrow t (.int x) = .int x) (hfit : fits t (.int x) = true) (kk : ∀ w', MR (tup S i 0 x) f b n w' → Fr b (b + 12) w w' → Ev E M q L st n w' cs Q) : Ev E M pc L (.int x :: .ref b :: st) n w cs Q :=
  g_put d hq fl gkX7 h hi hnar hfit (fun w' h1 h2 => kk w' (by rw [rowT_tup h0] at h1; exact h1) h2)
theorem m_sld {j : Nat} {x : Int32} (d : decode (ev_cc M) pc = .ok (.iaload, 1)) (hq : pc + 1 = q) (h : MR S f b n w) (hx : ev_ix x 426 j) (kk : Ev E M q L (.int (f j) :: st) n w cs Q) : Ev E M pc L (.int x :: .ref (b + 1) :: st) n w cs Q :=
  g_iald (i := 0) d hq gkX7 h rfl hx (by rw [rowT_s]; exact kk)
theorem m_sst {j : Nat} {x y : Int32} (d : decode (ev_cc M) pc = .ok (.iastore, 1)) (hq : pc + 1 = q) (h : MR S f b n w) (hx : ev_ix x 426 j) (kk : ∀ w', MR S (upd f j y) b n w' → Fr b (b + 12) w w' → Ev E M q L st n w' cs Q) : Ev E M pc L (.int y :: .int x :: .ref (b + 1) :: st) n w cs Q :=
  g_iast (i := 0) d hq gkX7 h rfl hx (fun w' h1 h2 => kk w' (by rw [rowT_sst] at h1; exact h1) h2)
theorem m_ald {i o len j : Nat} {x : Int32} (d : decode (ev_cc M) pc = .ok (.iaload, 1)) (hq : pc + 1 = q) (h : MR S f b n w) (h0 : i ≠ 0) (hi : gnth layX7 i = some (1, o, 0, len)) (hx : ev_ix x len j) (kk : Ev E M q L (.int (S i j) :: st) n w cs Q) : Ev E M pc L (.int x :: .ref (b + o) :: st) n w cs Q :=
  g_iald d hq gkX7 h hi hx (by rw [rowT_n h0]; exact kk)
theorem m_zld {i o len j : Nat} {x : Int32} (d : decode (ev_cc M) pc = .ok (.baload, 1)) (hq : pc + 1 = q) (h : MR S f b n w) (h0 : i ≠ 0) (hi : gnth layX7 i = some (1, o, 2, len)) (hx : ev_ix x len j) (kk : Ev E M q L (.int (S i j) :: st) n w cs Q) : Ev E M pc L (.int x :: .ref (b + o) :: st) n w cs Q :=
  g_zald d hq gkX7 h hi hx (by rw [rowT_n h0]; exact kk)
theorem m_ast {i o len j : Nat} {x y : Int32} (d : decode (ev_cc M) pc = .ok (.iastore, 1)) (hq : pc + 1 = q) (h : MR S f b n w) (h0 : i ≠ 0) (hi : gnth layX7 i = some (1, o, 0, len)) (hx : ev_ix x len j) (kk : ∀ w', MR (tup S i j y) f b n w' → Fr b (b + 12) w w' → Ev E M q L st n w' cs Q) : Ev E M pc L (.int y :: .int x :: .ref (b + o) :: st) n w cs Q :=
  g_iast d hq gkX7 h hi hx (fun w' h1 h2 => kk w' (by rw [rowT_tup h0] at h1; exact h1) h2)
theorem m_zst {i o len j : Nat} {x y : Int32} (d : decode (ev_cc M) pc = .ok (.bastore, 1)) (hq : pc + 1 = q) (h : MR S f b n w) (h0 : i ≠ 0) (hi : gnth layX7 i = some (1, o, 2, len)) (hx : ev_ix x len j) (kk : ∀ w', MR (tup S i j (vp_nar .boolean y)) f b n w' → Fr b (b + 12) w w' → Ev E M q L st n w' cs Q) : Ev E M pc L (.int y :: .int x :: .ref (b + o) :: st) n w cs Q :=
  g_zast d hq gkX7 h hi hx (fun w' h1 h2 => kk w' (by rw [rowT_tup h0] at h1; exact h1) h2)
end EVM
def inL (v a c : Int64) : Bool := decide (a ≤ v) && decide (v ≤ c)
set_option maxRecDepth 100000 in
set_option maxHeartbeats 4000000 in
theorem c_X7_in {E : ev_E} {n : Nat} {w : ev_W} {v a c : Int64} : Ct E mX7_in [.long v, .long a, .long c] n w (ev_is (some (.int (zI (inL v a c)))) n w) := by
  refine Ct.of 0 (by decide) (Nat.le_of_ble_eq_true rfl) rfl ?_
  refine st_lload_n (q := 1) dX7_in_0 rfl rfl rfl ?_
  refine st_lload_n (q := 2) dX7_in_1 rfl rfl rfl ?_
  refine st_lcmp (q := 3) dX7_in_2 rfl ?_
  refine st_if_lt (q := 6) (tgt := 17) dX7_in_3 rfl rfl (fun c_3 => ?_) (fun c_3 => ?_)
  · refine st_iconst (q := 18) dX7_in_17 rfl ic_0 ?_
    refine st_nreturn dX7_in_18 rfl (by rfl) ?_
    refine ⟨?_, rfl, rfl⟩
    first | (have z := Int64.not_le.mpr ((lg_cmp_lt _ _).mp c_3); simp [inL, zI, z]; done) | (simp only [lg_cmp_lt, lg_cmp_gt, Int64.not_lt] at *; simp_all [inL, zI]; done)
  · refine st_lload_n (q := 7) dX7_in_6 rfl rfl rfl ?_
    refine st_lload (q := 9) dX7_in_7 rfl rfl ?_
    refine st_lcmp (q := 10) dX7_in_9 rfl ?_
    refine st_if_gt (q := 13) (tgt := 17) dX7_in_10 rfl rfl (fun c_10 => ?_) (fun c_10 => ?_)
    · refine st_iconst (q := 18) dX7_in_17 rfl ic_0 ?_
      refine st_nreturn dX7_in_18 rfl (by rfl) ?_
      refine ⟨?_, rfl, rfl⟩
      first | (have z := Int64.not_le.mpr ((lg_cmp_lt _ _).mp c_3); simp [inL, zI, z]; done) | (simp only [lg_cmp_lt, lg_cmp_gt, Int64.not_lt] at *; simp_all [inL, zI]; done)
    · refine st_iconst (q := 14) dX7_in_13 rfl ic_1 ?_
      refine st_goto (q := 18) dX7_in_14 rfl ?_
      refine st_nreturn dX7_in_18 rfl (by rfl) ?_
      refine ⟨?_, rfl, rfl⟩
      first | (have z := Int64.not_le.mpr ((lg_cmp_lt _ _).mp c_3); simp [inL, zI, z]; done) | (simp only [lg_cmp_lt, lg_cmp_gt, Int64.not_lt] at *; simp_all [inL, zI]; done)
theorem inL_i {x a c : Int32} : inL x.toInt64 a.toInt64 c.toInt64 = inI x a c := by
  simp only [inL, inI, Int64.le_iff_toInt_le, Int32.le_iff_toInt_le, Int32.toInt_toInt64]
theorem c_X7_inI {E : ev_E} {n : Nat} {w : ev_W} {x a c : Int32} {a' c' : Int64} (ha : a.toInt64 = a') (hc : c.toInt64 = c') : Ct E mX7_in [.long x.toInt64, .long a', .long c'] n w (ev_is (some (.int (zI (inI x a c)))) n w) := by
  subst ha; subst hc
  rw [← inL_i]
  exact c_X7_in
set_option maxRecDepth 100000 in
set_option maxHeartbeats 4000000 in
theorem c_X7_isHouse {E : ev_E} {n : Nat} {w : ev_W} {S : gT} {f : Nat → Int32} {b : Nat} (hM : MR S f b n w) {x : Int32} : Ct E mX7_isHouse [.ref b, .int x] n w (ev_is (some (.int (zI (inI x 0 (S 1 0 - 1))))) n w) := by
  refine Ct.of 0 (by decide) (Nat.le_of_ble_eq_true rfl) rfl ?_
  refine st_iload_n (q := 1) dX7_isHouse_0 rfl rfl rfl ?_
  refine st_i2l (q := 2) dX7_isHouse_1 rfl ?_
  refine st_lconst (q := 3) dX7_isHouse_2 rfl lc_0 ?_
  refine st_aload_n (q := 4) dX7_isHouse_3 rfl rfl rfl ?_
  refine m_get (q := 7) dX7_isHouse_4 rfl fl_X7_136.g hM (by decide) rfl ?_
  refine st_iconst (q := 8) dX7_isHouse_7 rfl ic_1 ?_
  refine st_isub (q := 9) dX7_isHouse_8 rfl ?_
  refine st_i2l (q := 10) dX7_isHouse_9 rfl ?_
  refine sp_S3 (q := 13) (M' := mX7_in) dX7_isHouse_10 rfl ok_X7_in mk_X7_in ml_X7_46 ⟨Nat.le_of_ble_eq_true rfl, Nat.le_of_ble_eq_true rfl⟩ rfl (Nat.le_of_ble_eq_true rfl) ⟨rfl, rfl⟩ (c_X7_inI (a := 0) (by decide) rfl) ?_
  refine st_nreturn dX7_isHouse_13 rfl (by exact zI_nar _) ?_
  exact ⟨rfl, rfl, rfl⟩
set_option maxRecDepth 100000 in
set_option maxHeartbeats 4000000 in
theorem c_X7_isThing {E : ev_E} {n : Nat} {w : ev_W} {S : gT} {f : Nat → Int32} {b : Nat} (hM : MR S f b n w) {x : Int32} : Ct E mX7_isThing [.ref b, .int x] n w (ev_is (some (.int (zI (inI x 0 (S 2 0 - 1))))) n w) := by
  refine Ct.of 0 (by decide) (Nat.le_of_ble_eq_true rfl) rfl ?_
  refine st_iload_n (q := 1) dX7_isThing_0 rfl rfl rfl ?_
  refine st_i2l (q := 2) dX7_isThing_1 rfl ?_
  refine st_lconst (q := 3) dX7_isThing_2 rfl lc_0 ?_
  refine st_aload_n (q := 4) dX7_isThing_3 rfl rfl rfl ?_
  refine m_get (q := 7) dX7_isThing_4 rfl fl_X7_139.g hM (by decide) rfl ?_
  refine st_iconst (q := 8) dX7_isThing_7 rfl ic_1 ?_
  refine st_isub (q := 9) dX7_isThing_8 rfl ?_
  refine st_i2l (q := 10) dX7_isThing_9 rfl ?_
  refine sp_S3 (q := 13) (M' := mX7_in) dX7_isThing_10 rfl ok_X7_in mk_X7_in ml_X7_46 ⟨Nat.le_of_ble_eq_true rfl, Nat.le_of_ble_eq_true rfl⟩ rfl (Nat.le_of_ble_eq_true rfl) ⟨rfl, rfl⟩ (c_X7_inI (a := 0) (by decide) rfl) ?_
  refine st_nreturn dX7_isThing_13 rfl (by exact zI_nar _) ?_
  exact ⟨rfl, rfl, rfl⟩
def fillM (k s : Int32) : Int32 := if k = 0 then s else if k = 1 then 2 * s else if k = 2 then (s + 1) / 2 else (s + 1) / 2 + 1
def costM (k s : Int32) : Int32 := if 2 ≤ k then (if k = 2 then 3 * s else 3 * s + 1) else s
abbrev fllM (f : Nat → Int32) (p j : Nat) : Int32 := fillM (f (p + 20 + j)) (f (p + 36 + j))
abbrev cstM (f : Nat → Int32) (p j : Nat) : Int32 := costM (f (p + 20 + j)) (f (p + 44 + j))
def fldM (f : Nat → Int32) (p : Nat) (h : Int32) : Nat → Int32
  | 0 => 0
  | i + 1 => fldM f p h i + (if f (p + 28 + i) = h then (if f (p + 52 + i) = 1 then fllM f p i else 0) else 0)
def losM (f : Nat → Int32) (p i : Nat) : Nat → Int32 :=
  upd (upd f (p + 52 + i) 2) (p + 70) (if f (p + 70) + cstM f p i ≤ 999 then f (p + 70) + cstM f p i else 999)
def flwM (p : Nat) (h : Int32) (hj nt : Nat) : Nat → (Nat → Int32) → (Nat → Int32)
  | 0, f => f
  | k + 1, f => if f (p + 28 + k) = h then (if f (p + 52 + k) = 1 then (if fldM f p h nt ≤ f (p + 4 + hj) then flwM p h hj nt k f else flwM p h hj nt k (losM f p k)) else flwM p h hj nt k f) else flwM p h hj nt k f
def plM (g : Nat → Int32) (p hj : Nat) : Nat → Int32 := upd g (p + 12 + hj) (if 0 ≤ g (p + 12 + hj) + g (p + 67) then (if g (p + 12 + hj) + g (p + 67) ≤ 99 then g (p + 12 + hj) + g (p + 67) else 99) else 0)
def floM (f : Nat → Int32) (p : Nat) (h : Int32) (hj nt : Nat) : Nat → Int32 :=
  plM (flwM p h hj nt nt (upd f (p + 4 + hj) (if 0 ≤ f (p + 4 + hj) - f (p + 8 + hj) then f (p + 4 + hj) - f (p + 8 + hj) else 0))) p hj
def dlM (f : Nat → Int32) (p : Nat) (h : Int32) : Nat → (Nat → Int32)
  | 0 => f
  | i + 1 => if dlM f p h i (p + 28 + i) = h then (if dlM f p h i (p + 52 + i) = 0 then losM (dlM f p h i) p i else dlM f p h i) else dlM f p h i
def dhM (f : Nat → Int32) (p : Nat) (lv : Int32) (hh nt : Nat) : Nat → Int32 :=
  if lv ≤ f (p + hh) then upd f (p + 16 + hh) 0
  else floM (upd (if f (p + 16 + hh) = 0 then dlM f p (nI hh) nt else f) (p + 16 + hh) 1) p (nI hh) hh nt
def dhsM (p : Nat) (lv : Int32) (nt : Nat) (f : Nat → Int32) : Nat → (Nat → Int32)
  | 0 => f
  | h + 1 => dhM (dhsM p lv nt f h) p lv h nt
def lvM (x : Int32) : Int32 := if 0 ≤ x then (if x ≤ 20 then x else 20) else 0
def dymM (f : Nat → Int32) (p : Nat) (lv : Int32) (nh nt : Nat) : Nat → Int32 := upd (dhsM p lv nt (upd f (p + 68) lv) nh) (p + 69) (dhsM p lv nt (upd f (p + 68) lv) nh (p + 69) + 1)
def dayM (f : Nat → Int32) (p : Nat) (ri : Int32) (nh nt : Nat) : Nat → Int32 := dymM f p (lvM (f (p + 68) + ri)) nh nt
def afM (f : Nat → Int32) (p : Nat) : Nat → Int32
  | 0 => 0
  | h + 1 => afM f p h ||| (f (p + 16 + h) <<< (nI h &&& 31))
def thM (f : Nat → Int32) (p : Nat) (s : Int32) : Nat → Int32
  | 0 => 0
  | i + 1 => thM f p s i ||| (if f (p + 52 + i) = s then 1 <<< (nI i &&& 31) else 0)
def ohM (f : Nat → Int32) (p : Nat) (h : Int32) : Nat → Int32
  | 0 => 0
  | i + 1 => ohM f p h i ||| (if f (p + 28 + i) = h then 1 <<< (nI i &&& 31) else 0)
def cpyM (f : Nat → Int32) (a c : Nat) : Nat → (Nat → Int32)
  | 0 => f
  | k + 1 => upd (cpyM f a c k) (c + k) (cpyM f a c k (a + k))
def riM (f : Nat → Int32) (p dd : Nat) : Int32 := f (p + 60 + dd % 7)
set_option maxRecDepth 100000 in
set_option maxHeartbeats 4000000 in
theorem c_X7_fillsOn {E : ev_E} {n : Nat} {w : ev_W} {S : gT} {f : Nat → Int32} {b : Nat} (hM : MR S f b n w) {p : Nat} (hp : p + 71 ≤ 426) {j : Nat} (hj : j < 8) : Ct E mX7_fillsOn [.ref b, .int (nI p), .int (nI j)] n w (ev_is (some (.int (fllM f p j))) n w) := by
  refine Ct.of 3 (by decide) (Nat.le_of_ble_eq_true rfl) rfl ?_
  refine st_aload_n (q := 1) dX7_fillsOn_0 rfl rfl rfl ?_
  refine g_getA (q := 4) dX7_fillsOn_1 rfl fl_X7_7.g hM rfl ?_
  refine st_iload_n (q := 5) dX7_fillsOn_4 rfl rfl rfl ?_
  refine st_bipush (q := 7) dX7_fillsOn_5 rfl bp_20 ?_
  refine st_iadd (q := 8) dX7_fillsOn_7 rfl ?_
  refine st_iload_n (q := 9) dX7_fillsOn_8 rfl rfl rfl ?_
  refine st_iadd (q := 10) dX7_fillsOn_9 rfl ?_
  refine m_sld (q := 11) dX7_fillsOn_10 rfl hM (by exact ix3 (b := 20) (by omega) (by decide)) ?_
  refine st_istore_n (q := 12) (L' := [_, _, _, _, _, _]) dX7_fillsOn_11 rfl rfl (Nat.le_of_ble_eq_true rfl) rfl ?_
  refine st_aload_n (q := 13) dX7_fillsOn_12 rfl rfl rfl ?_
  refine g_getA (q := 16) dX7_fillsOn_13 rfl fl_X7_7.g hM rfl ?_
  refine st_iload_n (q := 17) dX7_fillsOn_16 rfl rfl rfl ?_
  refine st_bipush (q := 19) dX7_fillsOn_17 rfl bp_36 ?_
  refine st_iadd (q := 20) dX7_fillsOn_19 rfl ?_
  refine st_iload_n (q := 21) dX7_fillsOn_20 rfl rfl rfl ?_
  refine st_iadd (q := 22) dX7_fillsOn_21 rfl ?_
  refine m_sld (q := 23) dX7_fillsOn_22 rfl hM (by exact ix3 (b := 36) (by omega) (by decide)) ?_
  refine st_istore (q := 25) (L' := [_, _, _, _, _, _]) dX7_fillsOn_23 rfl (Nat.le_of_ble_eq_true rfl) rfl ?_
  refine st_iload (q := 27) dX7_fillsOn_25 rfl rfl ?_
  refine st_iconst (q := 28) dX7_fillsOn_27 rfl ic_1 ?_
  refine st_iadd (q := 29) dX7_fillsOn_28 rfl ?_
  refine st_iconst (q := 30) dX7_fillsOn_29 rfl ic_2 ?_
  refine st_idiv (q := 31) dX7_fillsOn_30 rfl (by decide) ?_
  refine st_istore (q := 33) (L' := [_, _, _, _, _, _]) dX7_fillsOn_31 rfl (Nat.le_of_ble_eq_true rfl) rfl ?_
  refine st_iload_n (q := 34) dX7_fillsOn_33 rfl rfl rfl ?_
  refine st_if_ne (q := 37) (tgt := 42) dX7_fillsOn_34 rfl rfl (fun c_34 => ?_) (fun c_34 => ?_)
  · refine st_iload_n (q := 43) dX7_fillsOn_42 rfl rfl rfl ?_
    refine st_iconst (q := 44) dX7_fillsOn_43 rfl ic_1 ?_
    refine st_icmp_ne (q := 47) (tgt := 54) dX7_fillsOn_44 rfl rfl (fun c_44 => ?_) (fun c_44 => ?_)
    · refine st_iload_n (q := 55) dX7_fillsOn_54 rfl rfl rfl ?_
      refine st_iconst (q := 56) dX7_fillsOn_55 rfl ic_2 ?_
      refine st_icmp_ne (q := 59) (tgt := 64) dX7_fillsOn_56 rfl rfl (fun c_56 => ?_) (fun c_56 => ?_)
      · refine st_iload (q := 66) dX7_fillsOn_64 rfl rfl ?_
        refine st_iconst (q := 67) dX7_fillsOn_66 rfl ic_1 ?_
        refine st_iadd (q := 68) dX7_fillsOn_67 rfl ?_
        refine st_ireturn dX7_fillsOn_68 rfl ?_
        exact ⟨by simp_all [fillM], rfl, rfl⟩
      · refine st_iload (q := 61) dX7_fillsOn_59 rfl rfl ?_
        refine st_goto (q := 68) dX7_fillsOn_61 rfl ?_
        refine st_ireturn dX7_fillsOn_68 rfl ?_
        exact ⟨by simp_all [fillM], rfl, rfl⟩
    · refine st_iconst (q := 48) dX7_fillsOn_47 rfl ic_2 ?_
      refine st_iload (q := 50) dX7_fillsOn_48 rfl rfl ?_
      refine st_imul (q := 51) dX7_fillsOn_50 rfl ?_
      refine st_goto (q := 68) dX7_fillsOn_51 rfl ?_
      refine st_ireturn dX7_fillsOn_68 rfl ?_
      exact ⟨by simp_all [fillM], rfl, rfl⟩
  · refine st_iload (q := 39) dX7_fillsOn_37 rfl rfl ?_
    refine st_goto (q := 68) dX7_fillsOn_39 rfl ?_
    refine st_ireturn dX7_fillsOn_68 rfl ?_
    exact ⟨by simp_all [fillM], rfl, rfl⟩
set_option maxRecDepth 100000 in
set_option maxHeartbeats 4000000 in
theorem c_X7_costsOn {E : ev_E} {n : Nat} {w : ev_W} {S : gT} {f : Nat → Int32} {b : Nat} (hM : MR S f b n w) {p : Nat} (hp : p + 71 ≤ 426) {j : Nat} (hj : j < 8) : Ct E mX7_costsOn [.ref b, .int (nI p), .int (nI j)] n w (ev_is (some (.int (cstM f p j))) n w) := by
  refine Ct.of 2 (by decide) (Nat.le_of_ble_eq_true rfl) rfl ?_
  refine st_aload_n (q := 1) dX7_costsOn_0 rfl rfl rfl ?_
  refine g_getA (q := 4) dX7_costsOn_1 rfl fl_X7_7.g hM rfl ?_
  refine st_iload_n (q := 5) dX7_costsOn_4 rfl rfl rfl ?_
  refine st_bipush (q := 7) dX7_costsOn_5 rfl bp_20 ?_
  refine st_iadd (q := 8) dX7_costsOn_7 rfl ?_
  refine st_iload_n (q := 9) dX7_costsOn_8 rfl rfl rfl ?_
  refine st_iadd (q := 10) dX7_costsOn_9 rfl ?_
  refine m_sld (q := 11) dX7_costsOn_10 rfl hM (by exact ix3 (b := 20) (by omega) (by decide)) ?_
  refine st_istore_n (q := 12) (L' := [_, _, _, _, _]) dX7_costsOn_11 rfl rfl (Nat.le_of_ble_eq_true rfl) rfl ?_
  refine st_aload_n (q := 13) dX7_costsOn_12 rfl rfl rfl ?_
  refine g_getA (q := 16) dX7_costsOn_13 rfl fl_X7_7.g hM rfl ?_
  refine st_iload_n (q := 17) dX7_costsOn_16 rfl rfl rfl ?_
  refine st_bipush (q := 19) dX7_costsOn_17 rfl bp_44 ?_
  refine st_iadd (q := 20) dX7_costsOn_19 rfl ?_
  refine st_iload_n (q := 21) dX7_costsOn_20 rfl rfl rfl ?_
  refine st_iadd (q := 22) dX7_costsOn_21 rfl ?_
  refine m_sld (q := 23) dX7_costsOn_22 rfl hM (by exact ix3 (b := 44) (by omega) (by decide)) ?_
  refine st_istore (q := 25) (L' := [_, _, _, _, _]) dX7_costsOn_23 rfl (Nat.le_of_ble_eq_true rfl) rfl ?_
  refine st_iload_n (q := 26) dX7_costsOn_25 rfl rfl rfl ?_
  refine st_iconst (q := 27) dX7_costsOn_26 rfl ic_2 ?_
  refine st_icmp_ge (q := 30) (tgt := 35) dX7_costsOn_27 rfl rfl (fun c_27 => ?_) (fun c_27 => ?_)
  · refine st_iload_n (q := 36) dX7_costsOn_35 rfl rfl rfl ?_
    refine st_iconst (q := 37) dX7_costsOn_36 rfl ic_2 ?_
    refine st_icmp_ne (q := 40) (tgt := 47) dX7_costsOn_37 rfl rfl (fun c_37 => ?_) (fun c_37 => ?_)
    · refine st_iconst (q := 48) dX7_costsOn_47 rfl ic_3 ?_
      refine st_iload (q := 50) dX7_costsOn_48 rfl rfl ?_
      refine st_imul (q := 51) dX7_costsOn_50 rfl ?_
      refine st_iconst (q := 52) dX7_costsOn_51 rfl ic_1 ?_
      refine st_iadd (q := 53) dX7_costsOn_52 rfl ?_
      refine st_ireturn dX7_costsOn_53 rfl ?_
      refine ⟨?_, rfl, rfl⟩
      first | (rw [cstM, costM, if_neg c_27]; done) | (rw [cstM, costM, if_pos c_27, if_pos c_37]; done) | (rw [cstM, costM, if_pos c_27, if_neg c_37]; done)
    · refine st_iconst (q := 41) dX7_costsOn_40 rfl ic_3 ?_
      refine st_iload (q := 43) dX7_costsOn_41 rfl rfl ?_
      refine st_imul (q := 44) dX7_costsOn_43 rfl ?_
      refine st_goto (q := 53) dX7_costsOn_44 rfl ?_
      refine st_ireturn dX7_costsOn_53 rfl ?_
      refine ⟨?_, rfl, rfl⟩
      first | (rw [cstM, costM, if_neg c_27]; done) | (rw [cstM, costM, if_pos c_27, if_pos c_37]; done) | (rw [cstM, costM, if_pos c_27, if_neg c_37]; done)
  · refine st_iload (q := 32) dX7_costsOn_30 rfl rfl ?_
    refine st_goto (q := 53) dX7_costsOn_32 rfl ?_
    refine st_ireturn dX7_costsOn_53 rfl ?_
    refine ⟨?_, rfl, rfl⟩
    first | (rw [cstM, costM, if_neg c_27]; done) | (rw [cstM, costM, if_pos c_27, if_pos c_37]; done) | (rw [cstM, costM, if_pos c_27, if_neg c_37]; done)
set_option maxRecDepth 100000 in
set_option maxHeartbeats 4000000 in
theorem c_X7_filledOn {E : ev_E} {n : Nat} {w : ev_W} {S : gT} {f : Nat → Int32} {b : Nat} (hM : MR S f b n w) {p : Nat} (hp : p + 71 ≤ 426) {nt : Nat} (e2 : S 2 0 = nI nt) (hnt : nt ≤ 8) {h : Int32} : Ct E mX7_filledOn [.ref b, .int (nI p), .int h] n w (ev_is (some (.int (fldM f p h nt))) n w) := by
  refine Ct.of 2 (by decide) (Nat.le_of_ble_eq_true rfl) rfl ?_
  have lp : ∀ (k i : Nat), i + k = nt → Ev E mX7_filledOn 5 [some (.ref b), some (.int (nI p)), some (.int h), some (.int (fldM f p h i)), some (.int (nI i))] [] n w (0, 0) (ev_is (some (.int (fldM f p h nt))) n w) := by
    intro k
    induction k with
    | zero =>
      intro i hi
      obtain rfl : i = nt := hi
      refine st_iload (q := 7) dX7_filledOn_5 rfl rfl ?_
      refine st_aload_n (q := 8) dX7_filledOn_7 rfl rfl rfl ?_
      refine m_get (q := 11) dX7_filledOn_8 rfl fl_X7_139.g hM (by decide) rfl ?_
      refine st_icmp_ge (q := 14) (tgt := 66) dX7_filledOn_11 rfl rfl (fun c_11 => ?_) (fun c_11 => False.elim (c_11 (by rw [e2]; exact nI_le (by omega) (by omega))))
      refine st_iload_n (q := 67) dX7_filledOn_66 rfl rfl rfl ?_
      refine st_ireturn dX7_filledOn_67 rfl ?_
      exact ⟨rfl, rfl, rfl⟩
    | succ k ih =>
      intro i hi
      refine st_iload (q := 7) dX7_filledOn_5 rfl rfl ?_
      refine st_aload_n (q := 8) dX7_filledOn_7 rfl rfl rfl ?_
      refine m_get (q := 11) dX7_filledOn_8 rfl fl_X7_139.g hM (by decide) rfl ?_
      refine st_icmp_ge (q := 14) (tgt := 66) dX7_filledOn_11 rfl rfl (fun c_11 => False.elim (absurd (by rw [← e2]; exact c_11) (nI_ge (a := i) (b := nt) (by omega) (by omega)))) (fun c_11 => ?_)
      refine st_iload_n (q := 15) dX7_filledOn_14 rfl rfl rfl ?_
      refine st_aload_n (q := 16) dX7_filledOn_15 rfl rfl rfl ?_
      refine g_getA (q := 19) dX7_filledOn_16 rfl fl_X7_7.g hM rfl ?_
      refine st_iload_n (q := 20) dX7_filledOn_19 rfl rfl rfl ?_
      refine st_bipush (q := 22) dX7_filledOn_20 rfl bp_28 ?_
      refine st_iadd (q := 23) dX7_filledOn_22 rfl ?_
      refine st_iload (q := 25) dX7_filledOn_23 rfl rfl ?_
      refine st_iadd (q := 26) dX7_filledOn_25 rfl ?_
      refine m_sld (q := 27) dX7_filledOn_26 rfl hM (by exact ix3 (b := 28) (by omega) (by decide)) ?_
      refine st_iload_n (q := 28) dX7_filledOn_27 rfl rfl rfl ?_
      refine st_icmp_ne (q := 31) (tgt := 57) dX7_filledOn_28 rfl rfl (fun c_28 => ?_) (fun c_28 => ?_)
      · refine st_iconst (q := 58) dX7_filledOn_57 rfl ic_0 ?_
        refine st_iadd (q := 59) dX7_filledOn_58 rfl ?_
        refine st_istore_n (q := 60) (L' := [_, _, _, _, _]) dX7_filledOn_59 rfl rfl (Nat.le_of_ble_eq_true rfl) rfl ?_
        refine st_iinc (q := 63) (L' := [_, _, _, _, _]) dX7_filledOn_60 rfl rfl (nI_succ _).symm (Nat.le_of_ble_eq_true rfl) rfl ?_
        refine st_goto (q := 5) dX7_filledOn_63 rfl ?_
        have K := ih (i + 1) (by omega)
        first | (rw [fldM, if_neg c_28] at K; exact K) | (rw [fldM, if_pos c_28, if_neg c_44] at K; exact K) | (rw [fldM, if_pos c_28, if_pos c_44] at K; exact K)
      · refine st_aload_n (q := 32) dX7_filledOn_31 rfl rfl rfl ?_
        refine g_getA (q := 35) dX7_filledOn_32 rfl fl_X7_7.g hM rfl ?_
        refine st_iload_n (q := 36) dX7_filledOn_35 rfl rfl rfl ?_
        refine st_bipush (q := 38) dX7_filledOn_36 rfl bp_52 ?_
        refine st_iadd (q := 39) dX7_filledOn_38 rfl ?_
        refine st_iload (q := 41) dX7_filledOn_39 rfl rfl ?_
        refine st_iadd (q := 42) dX7_filledOn_41 rfl ?_
        refine m_sld (q := 43) dX7_filledOn_42 rfl hM (by exact ix3 (b := 52) (by omega) (by decide)) ?_
        refine st_iconst (q := 44) dX7_filledOn_43 rfl ic_1 ?_
        refine st_icmp_ne (q := 47) (tgt := 57) dX7_filledOn_44 rfl rfl (fun c_44 => ?_) (fun c_44 => ?_)
        · refine st_iconst (q := 58) dX7_filledOn_57 rfl ic_0 ?_
          refine st_iadd (q := 59) dX7_filledOn_58 rfl ?_
          refine st_istore_n (q := 60) (L' := [_, _, _, _, _]) dX7_filledOn_59 rfl rfl (Nat.le_of_ble_eq_true rfl) rfl ?_
          refine st_iinc (q := 63) (L' := [_, _, _, _, _]) dX7_filledOn_60 rfl rfl (nI_succ _).symm (Nat.le_of_ble_eq_true rfl) rfl ?_
          refine st_goto (q := 5) dX7_filledOn_63 rfl ?_
          have K := ih (i + 1) (by omega)
          first | (rw [fldM, if_neg c_28] at K; exact K) | (rw [fldM, if_pos c_28, if_neg c_44] at K; exact K) | (rw [fldM, if_pos c_28, if_pos c_44] at K; exact K)
        · refine st_aload_n (q := 48) dX7_filledOn_47 rfl rfl rfl ?_
          refine st_iload_n (q := 49) dX7_filledOn_48 rfl rfl rfl ?_
          refine st_iload (q := 51) dX7_filledOn_49 rfl rfl ?_
          refine sp_V2 (q := 54) (M' := mX7_fillsOn) dX7_filledOn_51 rfl ok_X7_fillsOn mk_X7_fillsOn ml_X7_145 ⟨Nat.le_of_ble_eq_true rfl, Nat.le_of_ble_eq_true rfl⟩ rfl (Nat.le_of_ble_eq_true rfl) (g_rv hM rfl) ⟨rfl, rfl⟩ (c_X7_fillsOn hM hp (j := i) (by omega)) ?_
          refine st_goto (q := 58) dX7_filledOn_54 rfl ?_
          refine st_iadd (q := 59) dX7_filledOn_58 rfl ?_
          refine st_istore_n (q := 60) (L' := [_, _, _, _, _]) dX7_filledOn_59 rfl rfl (Nat.le_of_ble_eq_true rfl) rfl ?_
          refine st_iinc (q := 63) (L' := [_, _, _, _, _]) dX7_filledOn_60 rfl rfl (nI_succ _).symm (Nat.le_of_ble_eq_true rfl) rfl ?_
          refine st_goto (q := 5) dX7_filledOn_63 rfl ?_
          have K := ih (i + 1) (by omega)
          first | (rw [fldM, if_neg c_28] at K; exact K) | (rw [fldM, if_pos c_28, if_neg c_44] at K; exact K) | (rw [fldM, if_pos c_28, if_pos c_44] at K; exact K)
  refine st_iconst (q := 1) dX7_filledOn_0 rfl ic_0 ?_
  refine st_istore_n (q := 2) (L' := [_, _, _, _, _]) dX7_filledOn_1 rfl rfl (Nat.le_of_ble_eq_true rfl) rfl ?_
  refine st_iconst (q := 3) dX7_filledOn_2 rfl ic_0 ?_
  refine st_istore (q := 5) (L' := [_, _, _, _, _]) dX7_filledOn_3 rfl (Nat.le_of_ble_eq_true rfl) rfl ?_
  exact lp nt 0 (by omega)
set_option maxRecDepth 100000 in
set_option maxHeartbeats 4000000 in
theorem c_X7_thoseOn {E : ev_E} {n : Nat} {w : ev_W} {S : gT} {f : Nat → Int32} {b : Nat} (hM : MR S f b n w) {p : Nat} (hp : p + 71 ≤ 426) {nt : Nat} (e2 : S 2 0 = nI nt) (hnt : nt ≤ 8) {s : Int32} : Ct E mX7_thoseOn [.ref b, .int (nI p), .int s] n w (ev_is (some (.int (thM f p s nt))) n w) := by
  refine Ct.of 2 (by decide) (Nat.le_of_ble_eq_true rfl) rfl ?_
  have lp : ∀ (k i : Nat), i + k = nt → Ev E mX7_thoseOn 5 [some (.ref b), some (.int (nI p)), some (.int s), some (.int (thM f p s i)), some (.int (nI i))] [] n w (0, 0) (ev_is (some (.int (thM f p s nt))) n w) := by
    intro k
    induction k with
    | zero =>
      intro i hi
      obtain rfl : i = nt := hi
      refine st_iload (q := 7) dX7_thoseOn_5 rfl rfl ?_
      refine st_aload_n (q := 8) dX7_thoseOn_7 rfl rfl rfl ?_
      refine m_get (q := 11) dX7_thoseOn_8 rfl fl_X7_139.g hM (by decide) rfl ?_
      refine st_icmp_ge (q := 14) (tgt := 47) dX7_thoseOn_11 rfl rfl (fun c_11 => ?_) (fun c_11 => False.elim (c_11 (by rw [e2]; exact nI_le (by omega) (by omega))))
      refine st_iload_n (q := 48) dX7_thoseOn_47 rfl rfl rfl ?_
      refine st_ireturn dX7_thoseOn_48 rfl ?_
      exact ⟨rfl, rfl, rfl⟩
    | succ k ih =>
      intro i hi
      refine st_iload (q := 7) dX7_thoseOn_5 rfl rfl ?_
      refine st_aload_n (q := 8) dX7_thoseOn_7 rfl rfl rfl ?_
      refine m_get (q := 11) dX7_thoseOn_8 rfl fl_X7_139.g hM (by decide) rfl ?_
      refine st_icmp_ge (q := 14) (tgt := 47) dX7_thoseOn_11 rfl rfl (fun c_11 => False.elim (absurd (by rw [← e2]; exact c_11) (nI_ge (a := i) (b := nt) (by omega) (by omega)))) (fun c_11 => ?_)
      refine st_iload_n (q := 15) dX7_thoseOn_14 rfl rfl rfl ?_
      refine st_aload_n (q := 16) dX7_thoseOn_15 rfl rfl rfl ?_
      refine g_getA (q := 19) dX7_thoseOn_16 rfl fl_X7_7.g hM rfl ?_
      refine st_iload_n (q := 20) dX7_thoseOn_19 rfl rfl rfl ?_
      refine st_bipush (q := 22) dX7_thoseOn_20 rfl bp_52 ?_
      refine st_iadd (q := 23) dX7_thoseOn_22 rfl ?_
      refine st_iload (q := 25) dX7_thoseOn_23 rfl rfl ?_
      refine st_iadd (q := 26) dX7_thoseOn_25 rfl ?_
      refine m_sld (q := 27) dX7_thoseOn_26 rfl hM (by exact ix3 (b := 52) (by omega) (by decide)) ?_
      refine st_iload_n (q := 28) dX7_thoseOn_27 rfl rfl rfl ?_
      refine st_icmp_ne (q := 31) (tgt := 38) dX7_thoseOn_28 rfl rfl (fun c_28 => ?_) (fun c_28 => ?_)
      · refine st_iconst (q := 39) dX7_thoseOn_38 rfl ic_0 ?_
        refine st_ior (q := 40) dX7_thoseOn_39 rfl ?_
        refine st_istore_n (q := 41) (L' := [_, _, _, _, _]) dX7_thoseOn_40 rfl rfl (Nat.le_of_ble_eq_true rfl) rfl ?_
        refine st_iinc (q := 44) (L' := [_, _, _, _, _]) dX7_thoseOn_41 rfl rfl (nI_succ _).symm (Nat.le_of_ble_eq_true rfl) rfl ?_
        refine st_goto (q := 5) dX7_thoseOn_44 rfl ?_
        have K := ih (i + 1) (by omega)
        first | (rw [thM, if_neg c_28] at K; exact K) | (rw [thM, if_pos c_28] at K; exact K)
      · refine st_iconst (q := 32) dX7_thoseOn_31 rfl ic_1 ?_
        refine st_iload (q := 34) dX7_thoseOn_32 rfl rfl ?_
        refine st_ishl (q := 35) dX7_thoseOn_34 rfl ?_
        refine st_goto (q := 39) dX7_thoseOn_35 rfl ?_
        refine st_ior (q := 40) dX7_thoseOn_39 rfl ?_
        refine st_istore_n (q := 41) (L' := [_, _, _, _, _]) dX7_thoseOn_40 rfl rfl (Nat.le_of_ble_eq_true rfl) rfl ?_
        refine st_iinc (q := 44) (L' := [_, _, _, _, _]) dX7_thoseOn_41 rfl rfl (nI_succ _).symm (Nat.le_of_ble_eq_true rfl) rfl ?_
        refine st_goto (q := 5) dX7_thoseOn_44 rfl ?_
        have K := ih (i + 1) (by omega)
        first | (rw [thM, if_neg c_28] at K; exact K) | (rw [thM, if_pos c_28] at K; exact K)
  refine st_iconst (q := 1) dX7_thoseOn_0 rfl ic_0 ?_
  refine st_istore_n (q := 2) (L' := [_, _, _, _, _]) dX7_thoseOn_1 rfl rfl (Nat.le_of_ble_eq_true rfl) rfl ?_
  refine st_iconst (q := 3) dX7_thoseOn_2 rfl ic_0 ?_
  refine st_istore (q := 5) (L' := [_, _, _, _, _]) dX7_thoseOn_3 rfl (Nat.le_of_ble_eq_true rfl) rfl ?_
  exact lp nt 0 (by omega)
set_option maxRecDepth 100000 in
set_option maxHeartbeats 4000000 in
theorem c_X7_ofHouse {E : ev_E} {n : Nat} {w : ev_W} {S : gT} {f : Nat → Int32} {b : Nat} (hM : MR S f b n w) {p : Nat} (hp : p + 71 ≤ 426) {nt : Nat} (e2 : S 2 0 = nI nt) (hnt : nt ≤ 8) {s : Int32} : Ct E mX7_ofHouse [.ref b, .int (nI p), .int s] n w (ev_is (some (.int (ohM f p s nt))) n w) := by
  refine Ct.of 2 (by decide) (Nat.le_of_ble_eq_true rfl) rfl ?_
  have lp : ∀ (k i : Nat), i + k = nt → Ev E mX7_ofHouse 5 [some (.ref b), some (.int (nI p)), some (.int s), some (.int (ohM f p s i)), some (.int (nI i))] [] n w (0, 0) (ev_is (some (.int (ohM f p s nt))) n w) := by
    intro k
    induction k with
    | zero =>
      intro i hi
      obtain rfl : i = nt := hi
      refine st_iload (q := 7) dX7_ofHouse_5 rfl rfl ?_
      refine st_aload_n (q := 8) dX7_ofHouse_7 rfl rfl rfl ?_
      refine m_get (q := 11) dX7_ofHouse_8 rfl fl_X7_139.g hM (by decide) rfl ?_
      refine st_icmp_ge (q := 14) (tgt := 47) dX7_ofHouse_11 rfl rfl (fun c_11 => ?_) (fun c_11 => False.elim (c_11 (by rw [e2]; exact nI_le (by omega) (by omega))))
      refine st_iload_n (q := 48) dX7_ofHouse_47 rfl rfl rfl ?_
      refine st_ireturn dX7_ofHouse_48 rfl ?_
      exact ⟨rfl, rfl, rfl⟩
    | succ k ih =>
      intro i hi
      refine st_iload (q := 7) dX7_ofHouse_5 rfl rfl ?_
      refine st_aload_n (q := 8) dX7_ofHouse_7 rfl rfl rfl ?_
      refine m_get (q := 11) dX7_ofHouse_8 rfl fl_X7_139.g hM (by decide) rfl ?_
      refine st_icmp_ge (q := 14) (tgt := 47) dX7_ofHouse_11 rfl rfl (fun c_11 => False.elim (absurd (by rw [← e2]; exact c_11) (nI_ge (a := i) (b := nt) (by omega) (by omega)))) (fun c_11 => ?_)
      refine st_iload_n (q := 15) dX7_ofHouse_14 rfl rfl rfl ?_
      refine st_aload_n (q := 16) dX7_ofHouse_15 rfl rfl rfl ?_
      refine g_getA (q := 19) dX7_ofHouse_16 rfl fl_X7_7.g hM rfl ?_
      refine st_iload_n (q := 20) dX7_ofHouse_19 rfl rfl rfl ?_
      refine st_bipush (q := 22) dX7_ofHouse_20 rfl bp_28 ?_
      refine st_iadd (q := 23) dX7_ofHouse_22 rfl ?_
      refine st_iload (q := 25) dX7_ofHouse_23 rfl rfl ?_
      refine st_iadd (q := 26) dX7_ofHouse_25 rfl ?_
      refine m_sld (q := 27) dX7_ofHouse_26 rfl hM (by exact ix3 (b := 28) (by omega) (by decide)) ?_
      refine st_iload_n (q := 28) dX7_ofHouse_27 rfl rfl rfl ?_
      refine st_icmp_ne (q := 31) (tgt := 38) dX7_ofHouse_28 rfl rfl (fun c_28 => ?_) (fun c_28 => ?_)
      · refine st_iconst (q := 39) dX7_ofHouse_38 rfl ic_0 ?_
        refine st_ior (q := 40) dX7_ofHouse_39 rfl ?_
        refine st_istore_n (q := 41) (L' := [_, _, _, _, _]) dX7_ofHouse_40 rfl rfl (Nat.le_of_ble_eq_true rfl) rfl ?_
        refine st_iinc (q := 44) (L' := [_, _, _, _, _]) dX7_ofHouse_41 rfl rfl (nI_succ _).symm (Nat.le_of_ble_eq_true rfl) rfl ?_
        refine st_goto (q := 5) dX7_ofHouse_44 rfl ?_
        have K := ih (i + 1) (by omega)
        first | (rw [ohM, if_neg c_28] at K; exact K) | (rw [ohM, if_pos c_28] at K; exact K)
      · refine st_iconst (q := 32) dX7_ofHouse_31 rfl ic_1 ?_
        refine st_iload (q := 34) dX7_ofHouse_32 rfl rfl ?_
        refine st_ishl (q := 35) dX7_ofHouse_34 rfl ?_
        refine st_goto (q := 39) dX7_ofHouse_35 rfl ?_
        refine st_ior (q := 40) dX7_ofHouse_39 rfl ?_
        refine st_istore_n (q := 41) (L' := [_, _, _, _, _]) dX7_ofHouse_40 rfl rfl (Nat.le_of_ble_eq_true rfl) rfl ?_
        refine st_iinc (q := 44) (L' := [_, _, _, _, _]) dX7_ofHouse_41 rfl rfl (nI_succ _).symm (Nat.le_of_ble_eq_true rfl) rfl ?_
        refine st_goto (q := 5) dX7_ofHouse_44 rfl ?_
        have K := ih (i + 1) (by omega)
        first | (rw [ohM, if_neg c_28] at K; exact K) | (rw [ohM, if_pos c_28] at K; exact K)
  refine st_iconst (q := 1) dX7_ofHouse_0 rfl ic_0 ?_
  refine st_istore_n (q := 2) (L' := [_, _, _, _, _]) dX7_ofHouse_1 rfl rfl (Nat.le_of_ble_eq_true rfl) rfl ?_
  refine st_iconst (q := 3) dX7_ofHouse_2 rfl ic_0 ?_
  refine st_istore (q := 5) (L' := [_, _, _, _, _]) dX7_ofHouse_3 rfl (Nat.le_of_ble_eq_true rfl) rfl ?_
  exact lp nt 0 (by omega)
set_option maxRecDepth 100000 in
set_option maxHeartbeats 4000000 in
theorem c_X7_afloatOn {E : ev_E} {n : Nat} {w : ev_W} {S : gT} {f : Nat → Int32} {b : Nat} (hM : MR S f b n w) {p : Nat} (hp : p + 71 ≤ 426) {nh : Nat} (e1 : S 1 0 = nI nh) (hnh : nh ≤ 4) : Ct E mX7_afloatOn [.ref b, .int (nI p)] n w (ev_is (some (.int (afM f p nh))) n w) := by
  refine Ct.of 2 (by decide) (Nat.le_of_ble_eq_true rfl) rfl ?_
  have lp : ∀ (k i : Nat), i + k = nh → Ev E mX7_afloatOn 4 [some (.ref b), some (.int (nI p)), some (.int (afM f p i)), some (.int (nI i))] [] n w (0, 0) (ev_is (some (.int (afM f p nh))) n w) := by
    intro k
    induction k with
    | zero =>
      intro i hi
      obtain rfl : i = nh := hi
      refine st_iload_n (q := 5) dX7_afloatOn_4 rfl rfl rfl ?_
      refine st_aload_n (q := 6) dX7_afloatOn_5 rfl rfl rfl ?_
      refine m_get (q := 9) dX7_afloatOn_6 rfl fl_X7_136.g hM (by decide) rfl ?_
      refine st_icmp_ge (q := 12) (tgt := 34) dX7_afloatOn_9 rfl rfl (fun c_9 => ?_) (fun c_9 => False.elim (c_9 (by rw [e1]; exact nI_le (by omega) (by omega))))
      refine st_iload_n (q := 35) dX7_afloatOn_34 rfl rfl rfl ?_
      refine st_ireturn dX7_afloatOn_35 rfl ?_
      exact ⟨rfl, rfl, rfl⟩
    | succ k ih =>
      intro i hi
      refine st_iload_n (q := 5) dX7_afloatOn_4 rfl rfl rfl ?_
      refine st_aload_n (q := 6) dX7_afloatOn_5 rfl rfl rfl ?_
      refine m_get (q := 9) dX7_afloatOn_6 rfl fl_X7_136.g hM (by decide) rfl ?_
      refine st_icmp_ge (q := 12) (tgt := 34) dX7_afloatOn_9 rfl rfl (fun c_9 => False.elim (absurd (by rw [← e1]; exact c_9) (nI_ge (a := i) (b := nh) (by omega) (by omega)))) (fun c_9 => ?_)
      refine st_iload_n (q := 13) dX7_afloatOn_12 rfl rfl rfl ?_
      refine st_aload_n (q := 14) dX7_afloatOn_13 rfl rfl rfl ?_
      refine g_getA (q := 17) dX7_afloatOn_14 rfl fl_X7_7.g hM rfl ?_
      refine st_iload_n (q := 18) dX7_afloatOn_17 rfl rfl rfl ?_
      refine st_bipush (q := 20) dX7_afloatOn_18 rfl bp_16 ?_
      refine st_iadd (q := 21) dX7_afloatOn_20 rfl ?_
      refine st_iload_n (q := 22) dX7_afloatOn_21 rfl rfl rfl ?_
      refine st_iadd (q := 23) dX7_afloatOn_22 rfl ?_
      refine m_sld (q := 24) dX7_afloatOn_23 rfl hM (by exact ix3 (b := 16) (by omega) (by decide)) ?_
      refine st_iload_n (q := 25) dX7_afloatOn_24 rfl rfl rfl ?_
      refine st_ishl (q := 26) dX7_afloatOn_25 rfl ?_
      refine st_ior (q := 27) dX7_afloatOn_26 rfl ?_
      refine st_istore_n (q := 28) (L' := [_, _, _, _]) dX7_afloatOn_27 rfl rfl (Nat.le_of_ble_eq_true rfl) rfl ?_
      refine st_iinc (q := 31) (L' := [_, _, _, _]) dX7_afloatOn_28 rfl rfl (nI_succ _).symm (Nat.le_of_ble_eq_true rfl) rfl ?_
      refine st_goto (q := 4) dX7_afloatOn_31 rfl ?_
      exact ih (i + 1) (by omega)
  refine st_iconst (q := 1) dX7_afloatOn_0 rfl ic_0 ?_
  refine st_istore_n (q := 2) (L' := [_, _, _, _]) dX7_afloatOn_1 rfl rfl (Nat.le_of_ble_eq_true rfl) rfl ?_
  refine st_iconst (q := 3) dX7_afloatOn_2 rfl ic_0 ?_
  refine st_istore_n (q := 4) (L' := [_, _, _, _]) dX7_afloatOn_3 rfl rfl (Nat.le_of_ble_eq_true rfl) rfl ?_
  exact lp nh 0 (by omega)
set_option maxRecDepth 100000 in
set_option maxHeartbeats 4000000 in
theorem c_X7_losesOn {E : ev_E} {n : Nat} {w : ev_W} {S : gT} {f : Nat → Int32} {b : Nat} (hM : MR S f b n w) {p : Nat} (hp : p + 71 ≤ 426) {j : Nat} (hj : j < 8) : Ct E mX7_losesOn [.ref b, .int (nI p), .int (nI j)] n w (ev_ch none n w b (b + 12) (MR S (losM f p j) b n)) := by
  refine Ct.of 1 (by decide) (Nat.le_of_ble_eq_true rfl) rfl ?_
  have hF : Fr b (b + 12) w w := Fr.rf
  refine st_aload_n (q := 1) dX7_losesOn_0 rfl rfl rfl ?_
  refine g_getA (q := 4) dX7_losesOn_1 rfl fl_X7_7.g hM rfl ?_
  refine st_iload_n (q := 5) dX7_losesOn_4 rfl rfl rfl ?_
  refine st_bipush (q := 7) dX7_losesOn_5 rfl bp_70 ?_
  refine st_iadd (q := 8) dX7_losesOn_7 rfl ?_
  refine m_sld (q := 9) dX7_losesOn_8 rfl hM (by exact ix2 (b := 70) (by omega) (by decide)) ?_
  refine st_aload_n (q := 10) dX7_losesOn_9 rfl rfl rfl ?_
  refine st_iload_n (q := 11) dX7_losesOn_10 rfl rfl rfl ?_
  refine st_iload_n (q := 12) dX7_losesOn_11 rfl rfl rfl ?_
  refine sp_V2 (q := 15) (M' := mX7_costsOn) dX7_losesOn_12 rfl ok_X7_costsOn mk_X7_costsOn ml_X7_148 ⟨Nat.le_of_ble_eq_true rfl, Nat.le_of_ble_eq_true rfl⟩ rfl (Nat.le_of_ble_eq_true rfl) (g_rv hM rfl) ⟨rfl, rfl⟩ (c_X7_costsOn hM hp hj) ?_
  refine st_iadd (q := 16) dX7_losesOn_15 rfl ?_
  refine st_istore_n (q := 17) (L' := [_, _, _, _]) dX7_losesOn_16 rfl rfl (Nat.le_of_ble_eq_true rfl) rfl ?_
  refine st_aload_n (q := 18) dX7_losesOn_17 rfl rfl rfl ?_
  refine g_getA (q := 21) dX7_losesOn_18 rfl fl_X7_7.g hM rfl ?_
  refine st_iload_n (q := 22) dX7_losesOn_21 rfl rfl rfl ?_
  refine st_bipush (q := 24) dX7_losesOn_22 rfl bp_52 ?_
  refine st_iadd (q := 25) dX7_losesOn_24 rfl ?_
  refine st_iload_n (q := 26) dX7_losesOn_25 rfl rfl rfl ?_
  refine st_iadd (q := 27) dX7_losesOn_26 rfl ?_
  refine st_iconst (q := 28) dX7_losesOn_27 rfl ic_2 ?_
  refine m_sst (q := 29) dX7_losesOn_28 rfl hM (by exact ix3 (b := 52) (by omega) (by decide)) (fun w hM hF_ => ?_)
  replace hF := Fr.tr hF hF_
  refine st_aload_n (q := 30) dX7_losesOn_29 rfl rfl rfl ?_
  refine g_getA (q := 33) dX7_losesOn_30 rfl fl_X7_7.g hM rfl ?_
  refine st_iload_n (q := 34) dX7_losesOn_33 rfl rfl rfl ?_
  refine st_bipush (q := 36) dX7_losesOn_34 rfl bp_70 ?_
  refine st_iadd (q := 37) dX7_losesOn_36 rfl ?_
  refine st_iload_n (q := 38) dX7_losesOn_37 rfl rfl rfl ?_
  refine st_sipush (q := 41) dX7_losesOn_38 rfl sp_999 ?_
  refine st_icmp_le (q := 44) (tgt := 50) dX7_losesOn_41 rfl rfl (fun c_41 => ?_) (fun c_41 => ?_)
  · refine st_iload_n (q := 51) dX7_losesOn_50 rfl rfl rfl ?_
    refine m_sst (q := 52) dX7_losesOn_51 rfl hM (by exact ix2 (b := 70) (by omega) (by decide)) (fun w hM hF_ => ?_)
    replace hF := Fr.tr hF hF_
    refine st_return dX7_losesOn_52 rfl ?_
    first
      | (rw [losM, if_pos c_41]; exact ⟨rfl, rfl, hM, hF⟩)
      | (rw [losM, if_neg c_41]; exact ⟨rfl, rfl, hM, hF⟩)
  · refine st_sipush (q := 47) dX7_losesOn_44 rfl sp_999 ?_
    refine st_goto (q := 51) dX7_losesOn_47 rfl ?_
    refine m_sst (q := 52) dX7_losesOn_51 rfl hM (by exact ix2 (b := 70) (by omega) (by decide)) (fun w hM hF_ => ?_)
    replace hF := Fr.tr hF hF_
    refine st_return dX7_losesOn_52 rfl ?_
    first
      | (rw [losM, if_pos c_41]; exact ⟨rfl, rfl, hM, hF⟩)
      | (rw [losM, if_neg c_41]; exact ⟨rfl, rfl, hM, hF⟩)
set_option maxRecDepth 100000 in
set_option maxHeartbeats 4000000 in
theorem c_X7_floatsOn {E : ev_E} {n : Nat} {w : ev_W} {S : gT} {f : Nat → Int32} {b : Nat} (hM : MR S f b n w) {p : Nat} (hp : p + 71 ≤ 426) {nt : Nat} (e2 : S 2 0 = nI nt) (hnt : nt ≤ 8) {hj : Nat} (hh : hj < 4) : Ct E mX7_floatsOn [.ref b, .int (nI p), .int (nI hj)] n w (ev_ch none n w b (b + 12) (MR S (floM f p (nI hj) hj nt) b n)) := by
  refine Ct.of 2 (by decide) (Nat.le_of_ble_eq_true rfl) rfl ?_
  have hF : Fr b (b + 12) w w := Fr.rf
  have lp : ∀ (k : Nat), k ≤ nt → ∀ (F : Nat → Int32) (w1 : ev_W), MR S F b n w1 → Fr b (b + 12) w w1 → Ev E mX7_floatsOn 50 [some (.ref b), some (.int (nI p)), some (.int (nI hj)), some (.int (f (p + 4 + hj) - f (p + 8 + hj))), some (.int (nI k - 1))] [] n w1 (0, 0) (ev_ch none n w b (b + 12) (MR S (plM (flwM p (nI hj) hj nt k F) p hj) b n)) := by
    clear hF hM
    intro k
    induction k with
    | zero =>
      intro hk F w hM hF
      refine st_iload (q := 52) dX7_floatsOn_50 rfl rfl ?_
      refine st_if_lt (q := 55) (tgt := 119) dX7_floatsOn_52 rfl rfl (fun c_52 => ?_) (fun c_52 => False.elim (c_52 nI_m1_neg))
      refine st_aload_n (q := 120) dX7_floatsOn_119 rfl rfl rfl ?_
      refine g_getA (q := 123) dX7_floatsOn_120 rfl fl_X7_7.g hM rfl ?_
      refine st_iload_n (q := 124) dX7_floatsOn_123 rfl rfl rfl ?_
      refine st_bipush (q := 126) dX7_floatsOn_124 rfl bp_12 ?_
      refine st_iadd (q := 127) dX7_floatsOn_126 rfl ?_
      refine st_iload_n (q := 128) dX7_floatsOn_127 rfl rfl rfl ?_
      refine st_iadd (q := 129) dX7_floatsOn_128 rfl ?_
      refine m_sld (q := 130) dX7_floatsOn_129 rfl hM (by exact ix3 (b := 12) (by omega) (by decide)) ?_
      refine st_aload_n (q := 131) dX7_floatsOn_130 rfl rfl rfl ?_
      refine g_getA (q := 134) dX7_floatsOn_131 rfl fl_X7_7.g hM rfl ?_
      refine st_iload_n (q := 135) dX7_floatsOn_134 rfl rfl rfl ?_
      refine st_bipush (q := 137) dX7_floatsOn_135 rfl bp_67 ?_
      refine st_iadd (q := 138) dX7_floatsOn_137 rfl ?_
      refine m_sld (q := 139) dX7_floatsOn_138 rfl hM (by exact ix2 (b := 67) (by omega) (by decide)) ?_
      refine st_iadd (q := 140) dX7_floatsOn_139 rfl ?_
      refine st_istore (q := 142) (L' := [_, _, _, _, _]) dX7_floatsOn_140 rfl (Nat.le_of_ble_eq_true rfl) rfl ?_
      refine st_aload_n (q := 143) dX7_floatsOn_142 rfl rfl rfl ?_
      refine g_getA (q := 146) dX7_floatsOn_143 rfl fl_X7_7.g hM rfl ?_
      refine st_iload_n (q := 147) dX7_floatsOn_146 rfl rfl rfl ?_
      refine st_bipush (q := 149) dX7_floatsOn_147 rfl bp_12 ?_
      refine st_iadd (q := 150) dX7_floatsOn_149 rfl ?_
      refine st_iload_n (q := 151) dX7_floatsOn_150 rfl rfl rfl ?_
      refine st_iadd (q := 152) dX7_floatsOn_151 rfl ?_
      refine st_iload (q := 154) dX7_floatsOn_152 rfl rfl ?_
      refine st_if_ge (q := 157) (tgt := 161) dX7_floatsOn_154 rfl rfl (fun c_154 => ?_) (fun c_154 => ?_)
      · refine st_iload (q := 163) dX7_floatsOn_161 rfl rfl ?_
        refine st_bipush (q := 165) dX7_floatsOn_163 rfl bp_99 ?_
        refine st_icmp_le (q := 168) (tgt := 173) dX7_floatsOn_165 rfl rfl (fun c_165 => ?_) (fun c_165 => ?_)
        · refine st_iload (q := 175) dX7_floatsOn_173 rfl rfl ?_
          refine m_sst (q := 176) dX7_floatsOn_175 rfl hM (by exact ix3 (b := 12) (by omega) (by decide)) (fun w hM hF_ => ?_)
          replace hF := Fr.tr hF hF_
          refine st_return dX7_floatsOn_176 rfl ?_
          first
            | (rw [flwM, plM, if_neg c_154]; exact ⟨rfl, rfl, hM, hF⟩)
            | (rw [flwM, plM, if_pos c_154, if_neg c_165]; exact ⟨rfl, rfl, hM, hF⟩)
            | (rw [flwM, plM, if_pos c_154, if_pos c_165]; exact ⟨rfl, rfl, hM, hF⟩)
        · refine st_bipush (q := 170) dX7_floatsOn_168 rfl bp_99 ?_
          refine st_goto (q := 175) dX7_floatsOn_170 rfl ?_
          refine m_sst (q := 176) dX7_floatsOn_175 rfl hM (by exact ix3 (b := 12) (by omega) (by decide)) (fun w hM hF_ => ?_)
          replace hF := Fr.tr hF hF_
          refine st_return dX7_floatsOn_176 rfl ?_
          first
            | (rw [flwM, plM, if_neg c_154]; exact ⟨rfl, rfl, hM, hF⟩)
            | (rw [flwM, plM, if_pos c_154, if_neg c_165]; exact ⟨rfl, rfl, hM, hF⟩)
            | (rw [flwM, plM, if_pos c_154, if_pos c_165]; exact ⟨rfl, rfl, hM, hF⟩)
      · refine st_iconst (q := 158) dX7_floatsOn_157 rfl ic_0 ?_
        refine st_goto (q := 175) dX7_floatsOn_158 rfl ?_
        refine m_sst (q := 176) dX7_floatsOn_175 rfl hM (by exact ix3 (b := 12) (by omega) (by decide)) (fun w hM hF_ => ?_)
        replace hF := Fr.tr hF hF_
        refine st_return dX7_floatsOn_176 rfl ?_
        first
          | (rw [flwM, plM, if_neg c_154]; exact ⟨rfl, rfl, hM, hF⟩)
          | (rw [flwM, plM, if_pos c_154, if_neg c_165]; exact ⟨rfl, rfl, hM, hF⟩)
          | (rw [flwM, plM, if_pos c_154, if_pos c_165]; exact ⟨rfl, rfl, hM, hF⟩)
    | succ k ih =>
      intro hk F w hM hF
      rw [nI_pred k]
      refine st_iload (q := 52) dX7_floatsOn_50 rfl rfl ?_
      refine st_if_lt (q := 55) (tgt := 119) dX7_floatsOn_52 rfl rfl (fun c_52 => False.elim (nI_pos (n := k) (by omega) c_52)) (fun c_52 => ?_)
      refine st_aload_n (q := 56) dX7_floatsOn_55 rfl rfl rfl ?_
      refine g_getA (q := 59) dX7_floatsOn_56 rfl fl_X7_7.g hM rfl ?_
      refine st_iload_n (q := 60) dX7_floatsOn_59 rfl rfl rfl ?_
      refine st_bipush (q := 62) dX7_floatsOn_60 rfl bp_28 ?_
      refine st_iadd (q := 63) dX7_floatsOn_62 rfl ?_
      refine st_iload (q := 65) dX7_floatsOn_63 rfl rfl ?_
      refine st_iadd (q := 66) dX7_floatsOn_65 rfl ?_
      refine m_sld (q := 67) dX7_floatsOn_66 rfl hM (by exact ix3 (b := 28) (by omega) (by decide)) ?_
      refine st_iload_n (q := 68) dX7_floatsOn_67 rfl rfl rfl ?_
      refine st_icmp_ne (q := 71) (tgt := 113) dX7_floatsOn_68 rfl rfl (fun c_68 => ?_) (fun c_68 => ?_)
      · refine st_iinc (q := 116) (L' := [_, _, _, _, _]) dX7_floatsOn_113 rfl rfl (inc_m1 _) (Nat.le_of_ble_eq_true rfl) rfl ?_
        refine st_goto (q := 50) dX7_floatsOn_116 rfl ?_
        first
          | (rw [flwM, if_pos c_68, if_pos c_84, if_neg c_103]; exact ih (by omega) _ w hM hF)
          | (rw [flwM, if_pos c_68, if_pos c_84, if_pos c_103]; exact ih (by omega) _ w hM hF)
          | (rw [flwM, if_pos c_68, if_neg c_84]; exact ih (by omega) _ w hM hF)
          | (rw [flwM, if_neg c_68]; exact ih (by omega) _ w hM hF)
      · refine st_aload_n (q := 72) dX7_floatsOn_71 rfl rfl rfl ?_
        refine g_getA (q := 75) dX7_floatsOn_72 rfl fl_X7_7.g hM rfl ?_
        refine st_iload_n (q := 76) dX7_floatsOn_75 rfl rfl rfl ?_
        refine st_bipush (q := 78) dX7_floatsOn_76 rfl bp_52 ?_
        refine st_iadd (q := 79) dX7_floatsOn_78 rfl ?_
        refine st_iload (q := 81) dX7_floatsOn_79 rfl rfl ?_
        refine st_iadd (q := 82) dX7_floatsOn_81 rfl ?_
        refine m_sld (q := 83) dX7_floatsOn_82 rfl hM (by exact ix3 (b := 52) (by omega) (by decide)) ?_
        refine st_iconst (q := 84) dX7_floatsOn_83 rfl ic_1 ?_
        refine st_icmp_ne (q := 87) (tgt := 113) dX7_floatsOn_84 rfl rfl (fun c_84 => ?_) (fun c_84 => ?_)
        · refine st_iinc (q := 116) (L' := [_, _, _, _, _]) dX7_floatsOn_113 rfl rfl (inc_m1 _) (Nat.le_of_ble_eq_true rfl) rfl ?_
          refine st_goto (q := 50) dX7_floatsOn_116 rfl ?_
          first
            | (rw [flwM, if_pos c_68, if_pos c_84, if_neg c_103]; exact ih (by omega) _ w hM hF)
            | (rw [flwM, if_pos c_68, if_pos c_84, if_pos c_103]; exact ih (by omega) _ w hM hF)
            | (rw [flwM, if_pos c_68, if_neg c_84]; exact ih (by omega) _ w hM hF)
            | (rw [flwM, if_neg c_68]; exact ih (by omega) _ w hM hF)
        · refine st_aload_n (q := 88) dX7_floatsOn_87 rfl rfl rfl ?_
          refine st_iload_n (q := 89) dX7_floatsOn_88 rfl rfl rfl ?_
          refine st_iload_n (q := 90) dX7_floatsOn_89 rfl rfl rfl ?_
          refine sp_V2 (q := 93) (M' := mX7_filledOn) dX7_floatsOn_90 rfl ok_X7_filledOn mk_X7_filledOn ml_X7_151 ⟨Nat.le_of_ble_eq_true rfl, Nat.le_of_ble_eq_true rfl⟩ rfl (Nat.le_of_ble_eq_true rfl) (g_rv hM rfl) ⟨rfl, rfl⟩ (c_X7_filledOn hM hp e2 hnt) ?_
          refine st_aload_n (q := 94) dX7_floatsOn_93 rfl rfl rfl ?_
          refine g_getA (q := 97) dX7_floatsOn_94 rfl fl_X7_7.g hM rfl ?_
          refine st_iload_n (q := 98) dX7_floatsOn_97 rfl rfl rfl ?_
          refine st_iconst (q := 99) dX7_floatsOn_98 rfl ic_4 ?_
          refine st_iadd (q := 100) dX7_floatsOn_99 rfl ?_
          refine st_iload_n (q := 101) dX7_floatsOn_100 rfl rfl rfl ?_
          refine st_iadd (q := 102) dX7_floatsOn_101 rfl ?_
          refine m_sld (q := 103) dX7_floatsOn_102 rfl hM (by exact ix3 (b := 4) (by omega) (by decide)) ?_
          refine st_icmp_le (q := 106) (tgt := 113) dX7_floatsOn_103 rfl rfl (fun c_103 => ?_) (fun c_103 => ?_)
          · refine st_iinc (q := 116) (L' := [_, _, _, _, _]) dX7_floatsOn_113 rfl rfl (inc_m1 _) (Nat.le_of_ble_eq_true rfl) rfl ?_
            refine st_goto (q := 50) dX7_floatsOn_116 rfl ?_
            first
              | (rw [flwM, if_pos c_68, if_pos c_84, if_neg c_103]; exact ih (by omega) _ w hM hF)
              | (rw [flwM, if_pos c_68, if_pos c_84, if_pos c_103]; exact ih (by omega) _ w hM hF)
              | (rw [flwM, if_pos c_68, if_neg c_84]; exact ih (by omega) _ w hM hF)
              | (rw [flwM, if_neg c_68]; exact ih (by omega) _ w hM hF)
          · refine st_aload_n (q := 107) dX7_floatsOn_106 rfl rfl rfl ?_
            refine st_iload_n (q := 108) dX7_floatsOn_107 rfl rfl rfl ?_
            refine st_iload (q := 110) dX7_floatsOn_108 rfl rfl ?_
            refine sm_V2 (q := 113) (M' := mX7_losesOn) dX7_floatsOn_110 rfl ok_X7_losesOn mk_X7_losesOn ml_X7_154 ⟨Nat.le_of_ble_eq_true rfl, Nat.le_of_ble_eq_true rfl⟩ rfl (Nat.le_of_ble_eq_true rfl) (g_rv hM rfl) ⟨rfl, rfl⟩ (c_X7_losesOn hM hp (j := k) (by omega)) ?_
            intro _ _ w h9 _
            obtain ⟨rfl, rfl, hM, hF_⟩ := h9
            replace hF := Fr.tr hF hF_
            refine st_iinc (q := 116) (L' := [_, _, _, _, _]) dX7_floatsOn_113 rfl rfl (inc_m1 _) (Nat.le_of_ble_eq_true rfl) rfl ?_
            refine st_goto (q := 50) dX7_floatsOn_116 rfl ?_
            first
              | (rw [flwM, if_pos c_68, if_pos c_84, if_neg c_103]; exact ih (by omega) _ w hM hF)
              | (rw [flwM, if_pos c_68, if_pos c_84, if_pos c_103]; exact ih (by omega) _ w hM hF)
              | (rw [flwM, if_pos c_68, if_neg c_84]; exact ih (by omega) _ w hM hF)
              | (rw [flwM, if_neg c_68]; exact ih (by omega) _ w hM hF)
  unfold floM
  refine st_aload_n (q := 1) dX7_floatsOn_0 rfl rfl rfl ?_
  refine g_getA (q := 4) dX7_floatsOn_1 rfl fl_X7_7.g hM rfl ?_
  refine st_iload_n (q := 5) dX7_floatsOn_4 rfl rfl rfl ?_
  refine st_iconst (q := 6) dX7_floatsOn_5 rfl ic_4 ?_
  refine st_iadd (q := 7) dX7_floatsOn_6 rfl ?_
  refine st_iload_n (q := 8) dX7_floatsOn_7 rfl rfl rfl ?_
  refine st_iadd (q := 9) dX7_floatsOn_8 rfl ?_
  refine m_sld (q := 10) dX7_floatsOn_9 rfl hM (by exact ix3 (b := 4) (by omega) (by decide)) ?_
  refine st_aload_n (q := 11) dX7_floatsOn_10 rfl rfl rfl ?_
  refine g_getA (q := 14) dX7_floatsOn_11 rfl fl_X7_7.g hM rfl ?_
  refine st_iload_n (q := 15) dX7_floatsOn_14 rfl rfl rfl ?_
  refine st_bipush (q := 17) dX7_floatsOn_15 rfl bp_8 ?_
  refine st_iadd (q := 18) dX7_floatsOn_17 rfl ?_
  refine st_iload_n (q := 19) dX7_floatsOn_18 rfl rfl rfl ?_
  refine st_iadd (q := 20) dX7_floatsOn_19 rfl ?_
  refine m_sld (q := 21) dX7_floatsOn_20 rfl hM (by exact ix3 (b := 8) (by omega) (by decide)) ?_
  refine st_isub (q := 22) dX7_floatsOn_21 rfl ?_
  refine st_istore_n (q := 23) (L' := [_, _, _, _, _]) dX7_floatsOn_22 rfl rfl (Nat.le_of_ble_eq_true rfl) rfl ?_
  refine st_aload_n (q := 24) dX7_floatsOn_23 rfl rfl rfl ?_
  refine g_getA (q := 27) dX7_floatsOn_24 rfl fl_X7_7.g hM rfl ?_
  refine st_iload_n (q := 28) dX7_floatsOn_27 rfl rfl rfl ?_
  refine st_iconst (q := 29) dX7_floatsOn_28 rfl ic_4 ?_
  refine st_iadd (q := 30) dX7_floatsOn_29 rfl ?_
  refine st_iload_n (q := 31) dX7_floatsOn_30 rfl rfl rfl ?_
  refine st_iadd (q := 32) dX7_floatsOn_31 rfl ?_
  refine st_iload_n (q := 33) dX7_floatsOn_32 rfl rfl rfl ?_
  refine st_if_ge (q := 36) (tgt := 40) dX7_floatsOn_33 rfl rfl (fun c_33 => ?_) (fun c_33 => ?_)
  · refine st_iload_n (q := 41) dX7_floatsOn_40 rfl rfl rfl ?_
    refine m_sst (q := 42) dX7_floatsOn_41 rfl hM (by exact ix3 (b := 4) (by omega) (by decide)) (fun w hM hF_ => ?_)
    replace hF := Fr.tr hF hF_
    refine st_aload_n (q := 43) dX7_floatsOn_42 rfl rfl rfl ?_
    refine m_get (q := 46) dX7_floatsOn_43 rfl fl_X7_139.g hM (by decide) rfl ?_
    refine st_iconst (q := 47) dX7_floatsOn_46 rfl ic_1 ?_
    refine st_isub (q := 48) dX7_floatsOn_47 rfl ?_
    refine st_istore (q := 50) (L' := [_, _, _, _, _]) dX7_floatsOn_48 rfl (Nat.le_of_ble_eq_true rfl) rfl ?_
    rw [e2]
    first
      | (rw [if_pos c_33]; exact lp nt (Nat.le_refl _) _ w hM hF)
      | (rw [if_neg c_33]; exact lp nt (Nat.le_refl _) _ w hM hF)
  · refine st_iconst (q := 37) dX7_floatsOn_36 rfl ic_0 ?_
    refine st_goto (q := 41) dX7_floatsOn_37 rfl ?_
    refine m_sst (q := 42) dX7_floatsOn_41 rfl hM (by exact ix3 (b := 4) (by omega) (by decide)) (fun w hM hF_ => ?_)
    replace hF := Fr.tr hF hF_
    refine st_aload_n (q := 43) dX7_floatsOn_42 rfl rfl rfl ?_
    refine m_get (q := 46) dX7_floatsOn_43 rfl fl_X7_139.g hM (by decide) rfl ?_
    refine st_iconst (q := 47) dX7_floatsOn_46 rfl ic_1 ?_
    refine st_isub (q := 48) dX7_floatsOn_47 rfl ?_
    refine st_istore (q := 50) (L' := [_, _, _, _, _]) dX7_floatsOn_48 rfl (Nat.le_of_ble_eq_true rfl) rfl ?_
    rw [e2]
    first
      | (rw [if_pos c_33]; exact lp nt (Nat.le_refl _) _ w hM hF)
      | (rw [if_neg c_33]; exact lp nt (Nat.le_refl _) _ w hM hF)
