theorem ev_le_0 {l : List (Option Value)} : ev_le [] l := trivial
theorem ev_le_s {v : Value} {l l' : List (Option Value)} (h : ev_le l l') : ev_le (some v :: l) (some v :: l') := ⟨rfl, h⟩
theorem ev_le_n {x : Option Value} {l l' : List (Option Value)} (h : ev_le l l') : ev_le (none :: l) (x :: l') := h
theorem tup_tup {T : gT} {i j : Nat} {x y : Int32} : tup (tup T i j x) i j y = tup T i j y := by
  funext k
  unfold tup
  by_cases h : k = i
  · subst h
    rw [if_pos rfl, if_pos rfl, if_pos rfl]
    funext m
    by_cases e : m = j
    · subst e; rw [pk_us, pk_us]
    · rw [pk_un e, pk_un e, pk_un e]
  · rw [if_neg h, if_neg h, if_neg h]
def inD (p j : Nat) : Prop := (p + 4 ≤ j ∧ j < p + 8) ∨ (p + 12 ≤ j ∧ j < p + 20) ∨ (p + 52 ≤ j ∧ j < p + 60) ∨ (p + 68 ≤ j ∧ j < p + 71)
theorem losM_n {f : Nat → Int32} {p i j : Nat} (h1 : j ≠ p + 52 + i) (h2 : j ≠ p + 70) : losM f p i j = f j := by rw [losM, pk_un h2, pk_un h1]
theorem flwM_n {p : Nat} {h : Int32} {hj nt j : Nat} (h1 : ¬ (p + 52 ≤ j ∧ j < p + 60)) (h2 : j ≠ p + 70) : ∀ (k : Nat) (f : Nat → Int32), k ≤ 8 → flwM p h hj nt k f j = f j
  | 0, _, _ => rfl
  | k + 1, f, hk => by
    rw [flwM]
    split
    · split
      · split
        · exact flwM_n h1 h2 k f (by omega)
        · rw [flwM_n h1 h2 k _ (by omega), losM_n (by omega) h2]
      · exact flwM_n h1 h2 k f (by omega)
    · exact flwM_n h1 h2 k f (by omega)
theorem floM_n {f : Nat → Int32} {p : Nat} {h : Int32} {hj nt j : Nat} (hh : hj < 4) (hnt : nt ≤ 8) (h1 : ¬ inD p j) : floM f p h hj nt j = f j := by
  unfold inD at h1
  rw [floM, plM, pk_un (by omega), flwM_n (by omega) (by omega) nt _ hnt, pk_un (by omega)]
theorem dlM_n {f : Nat → Int32} {p : Nat} {h : Int32} {j : Nat} (h1 : ¬ (p + 52 ≤ j ∧ j < p + 60)) (h2 : j ≠ p + 70) : ∀ (k : Nat), k ≤ 8 → dlM f p h k j = f j
  | 0, _ => rfl
  | k + 1, hk => by
    rw [dlM]
    split
    · split
      · rw [losM_n (by omega) h2, dlM_n h1 h2 k (by omega)]
      · exact dlM_n h1 h2 k (by omega)
    · exact dlM_n h1 h2 k (by omega)
theorem dhM_n {f : Nat → Int32} {p : Nat} {lv : Int32} {hh nt j : Nat} (h4 : hh < 4) (hnt : nt ≤ 8) (h1 : ¬ inD p j) : dhM f p lv hh nt j = f j := by
  have h0 := h1
  unfold inD at h0
  rw [dhM]
  split
  · exact pk_un (by omega)
  · rw [floM_n h4 hnt h1, pk_un (by omega)]
    split
    · exact dlM_n (by omega) (by omega) nt hnt
    · rfl
theorem dhsM_n {f : Nat → Int32} {p : Nat} {lv : Int32} {nt j : Nat} (hnt : nt ≤ 8) (h1 : ¬ inD p j) : ∀ (k : Nat), k ≤ 4 → dhsM p lv nt f k j = f j
  | 0, _ => rfl
  | k + 1, hk => by rw [dhsM, dhM_n (by omega) hnt h1, dhsM_n hnt h1 k (by omega)]
theorem dayM_n {f : Nat → Int32} {p : Nat} {ri : Int32} {nh nt j : Nat} (hnh : nh ≤ 4) (hnt : nt ≤ 8) (h1 : ¬ inD p j) : dayM f p ri nh nt j = f j := by
  have h0 := h1
  unfold inD at h0
  rw [dayM, dymM, pk_un (by omega), dhsM_n hnt h1 nh hnh, pk_un (by omega)]
theorem floM_69 {f : Nat → Int32} {p : Nat} {h : Int32} {hj nt j : Nat} (hh : hj < 4) (hnt : nt ≤ 8) (h1 : j = p + 68 ∨ j = p + 69) : floM f p h hj nt j = f j := by
  rw [floM, plM, pk_un (by omega), flwM_n (by omega) (by omega) nt _ hnt, pk_un (by omega)]
theorem dhM_69 {f : Nat → Int32} {p : Nat} {lv : Int32} {hh nt j : Nat} (h4 : hh < 4) (hnt : nt ≤ 8) (h1 : j = p + 68 ∨ j = p + 69) : dhM f p lv hh nt j = f j := by
  rw [dhM]
  split
  · exact pk_un (by omega)
  · rw [floM_69 h4 hnt h1, pk_un (by omega)]
    split
    · exact dlM_n (by omega) (by omega) nt hnt
    · rfl
theorem dhsM_69 {f : Nat → Int32} {p : Nat} {lv : Int32} {nt j : Nat} (hnt : nt ≤ 8) (h1 : j = p + 68 ∨ j = p + 69) : ∀ (k : Nat), k ≤ 4 → dhsM p lv nt f k j = f j
  | 0, _ => rfl
  | k + 1, hk => by rw [dhsM, dhM_69 (by omega) hnt h1, dhsM_69 hnt h1 k (by omega)]
theorem dayM_69 {f : Nat → Int32} {p : Nat} {ri : Int32} {nh nt : Nat} (hnh : nh ≤ 4) (hnt : nt ≤ 8) : dayM f p ri nh nt (p + 69) = f (p + 69) + 1 := by
  rw [dayM, dymM, pk_us, dhsM_69 hnt (Or.inr rfl) nh hnh, pk_un (by omega)]
def dyM (f : Nat → Int32) (p dd nh nt : Nat) : Nat → Int32 := dayM f p (riM f p dd) nh nt
def dysM (f : Nat → Int32) (p dd nh nt : Nat) : Nat → (Nat → Int32)
  | 0 => f
  | i + 1 => dyM (dysM f p dd nh nt i) p (dd + i) nh nt
theorem dysM_n {f : Nat → Int32} {p dd nh nt j : Nat} (hnh : nh ≤ 4) (hnt : nt ≤ 8) (h1 : ¬ inD p j) : ∀ k, dysM f p dd nh nt k j = f j
  | 0 => rfl
  | k + 1 => by rw [dysM, dyM, dayM_n hnh hnt h1, dysM_n hnh hnt h1 k]
theorem dysM_69 {f : Nat → Int32} {p dd nh nt : Nat} (hnh : nh ≤ 4) (hnt : nt ≤ 8) (e : f (p + 69) = nI dd) : ∀ k, dysM f p dd nh nt k (p + 69) = nI (dd + k)
  | 0 => e
  | k + 1 => by rw [dysM, dyM, dayM_69 hnh hnt, dysM_69 hnh hnt e k, ← nI_succ]; rfl
theorem cpyM_at {f : Nat → Int32} {a c : Nat} (h : a + 71 ≤ c ∨ c + 71 ≤ a) : ∀ (k : Nat), k ≤ 71 → ∀ j, cpyM f a c k j = if c ≤ j ∧ j < c + k then f (a + (j - c)) else f j
  | 0, _, j => by rw [cpyM, if_neg (by omega)]
  | k + 1, hk, j => by
    have ih := cpyM_at (f := f) h k (by omega)
    rw [cpyM]
    by_cases e : j = c + k
    · subst e
      rw [pk_us, ih, if_neg (by omega), if_pos (by omega)]
      congr 1; omega
    · rw [pk_un e, ih]
      by_cases z : c ≤ j ∧ j < c + k
      · rw [if_pos z, if_pos (by omega)]
      · rw [if_neg z, if_neg (by omega)]
theorem cpyM_in {f : Nat → Int32} {a c : Nat} (h : a + 71 ≤ c ∨ c + 71 ≤ a) {i : Nat} (hi : i < 71) : cpyM f a c 71 (c + i) = f (a + i) := by
  rw [cpyM_at h 71 (Nat.le_refl _), if_pos (by omega)]; congr 1; omega
theorem cpyM_out {f : Nat → Int32} {a c : Nat} (h : a + 71 ≤ c ∨ c + 71 ≤ a) {j : Nat} (hj : j < c ∨ c + 71 ≤ j) : cpyM f a c 71 j = f j := by
  rw [cpyM_at h 71 (Nat.le_refl _), if_neg (by omega)]
theorem ixr {p dd : Nat} (hp : p + 71 ≤ 426) (hd : dd < 2 ^ 31) : ev_ix (nI p + 60 + (nI dd - nI dd / 7 * 7)) 426 (p + 60 + dd % 7) := by
  have e : nI dd - nI dd / 7 * 7 = nI (dd % 7) := pk_rem (d := 7) hd (by decide) (by decide)
  rw [e]
  have := Nat.mod_lt dd (show 0 < 7 by decide)
  exact ix3 (b := 60) (by omega) (by decide)
set_option maxRecDepth 100000 in
set_option maxHeartbeats 4000000 in
theorem c_X7_riseOn {E : ev_E} {n : Nat} {w : ev_W} {S : gT} {f : Nat → Int32} {b : Nat} (hM : MR S f b n w) {p : Nat} (hp : p + 71 ≤ 426) {dd : Nat} (ed : f (p + 69) = nI dd) (hdd : dd < 2 ^ 31) : Ct E mX7_riseOn [.ref b, .int (nI p)] n w (ev_is (some (.int (riM f p dd))) n w) := by
  refine Ct.of 0 (by decide) (Nat.le_of_ble_eq_true rfl) rfl ?_
  refine st_aload_n (q := 1) dX7_riseOn_0 rfl rfl rfl ?_
  refine g_getA (q := 4) dX7_riseOn_1 rfl fl_X7_7.g hM rfl ?_
  refine st_iload_n (q := 5) dX7_riseOn_4 rfl rfl rfl ?_
  refine st_bipush (q := 7) dX7_riseOn_5 rfl bp_60 ?_
  refine st_iadd (q := 8) dX7_riseOn_7 rfl ?_
  refine st_aload_n (q := 9) dX7_riseOn_8 rfl rfl rfl ?_
  refine g_getA (q := 12) dX7_riseOn_9 rfl fl_X7_7.g hM rfl ?_
  refine st_iload_n (q := 13) dX7_riseOn_12 rfl rfl rfl ?_
  refine st_bipush (q := 15) dX7_riseOn_13 rfl bp_69 ?_
  refine st_iadd (q := 16) dX7_riseOn_15 rfl ?_
  refine m_sld (q := 17) dX7_riseOn_16 rfl hM (by exact ix2 (b := 69) (by omega) (by decide)) ?_
  rw [ed]
  refine st_bipush (q := 19) dX7_riseOn_17 rfl bp_7 ?_
  refine st_irem (q := 20) dX7_riseOn_19 rfl (by decide) ?_
  refine st_iadd (q := 21) dX7_riseOn_20 rfl ?_
  refine m_sld (q := 22) dX7_riseOn_21 rfl hM (by exact ixr hp hdd) ?_
  refine st_ireturn dX7_riseOn_22 rfl ?_
  exact ⟨rfl, rfl, rfl⟩
set_option maxRecDepth 100000 in
set_option maxHeartbeats 4000000 in
theorem c_X7_copies {E : ev_E} {n : Nat} {w : ev_W} {S : gT} {f : Nat → Int32} {b : Nat} (hM : MR S f b n w) {p c : Nat} (hp : p + 71 ≤ 426) (hc : c + 71 ≤ 426) : Ct E mX7_copies [.ref b, .int (nI p), .int (nI c)] n w (ev_ch none n w b (b + 12) (MR S (cpyM f p c 71) b n)) := by
  refine Ct.of 1 (by decide) (Nat.le_of_ble_eq_true rfl) rfl ?_
  have hF : Fr b (b + 12) w w := Fr.rf
  have lp : ∀ (k i : Nat), i + k = 71 → ∀ (w1 : ev_W), MR S (cpyM f p c i) b n w1 → Fr b (b + 12) w w1 → Ev E mX7_copies 2 [some (.ref b), some (.int (nI p)), some (.int (nI c)), some (.int (nI i))] [] n w1 (0, 0) (ev_ch none n w b (b + 12) (MR S (cpyM f p c 71) b n)) := by
    clear hF hM
    intro k
    induction k with
    | zero =>
      intro i hi w hM hF
      obtain rfl : i = 71 := hi
      refine st_iload_n (q := 3) dX7_copies_2 rfl rfl rfl ?_
      refine st_bipush (q := 5) dX7_copies_3 rfl bp_71 ?_
      refine st_icmp_ge (q := 8) (tgt := 30) dX7_copies_5 rfl rfl (fun c_5 => ?_) (fun c_5 => False.elim (c_5 (by decide)))
      refine st_return dX7_copies_30 rfl ?_
      exact ⟨rfl, rfl, hM, hF⟩
    | succ k ih =>
      intro i hi w hM hF
      refine st_iload_n (q := 3) dX7_copies_2 rfl rfl rfl ?_
      refine st_bipush (q := 5) dX7_copies_3 rfl bp_71 ?_
      refine st_icmp_ge (q := 8) (tgt := 30) dX7_copies_5 rfl rfl (fun c_5 => False.elim (absurd c_5 (nI_ge (a := i) (b := 71) (by omega) (by omega)))) (fun c_5 => ?_)
      refine st_aload_n (q := 9) dX7_copies_8 rfl rfl rfl ?_
      refine g_getA (q := 12) dX7_copies_9 rfl fl_X7_7.g hM rfl ?_
      refine st_iload_n (q := 13) dX7_copies_12 rfl rfl rfl ?_
      refine st_iload_n (q := 14) dX7_copies_13 rfl rfl rfl ?_
      refine st_iadd (q := 15) dX7_copies_14 rfl ?_
      refine st_aload_n (q := 16) dX7_copies_15 rfl rfl rfl ?_
      refine g_getA (q := 19) dX7_copies_16 rfl fl_X7_7.g hM rfl ?_
      refine st_iload_n (q := 20) dX7_copies_19 rfl rfl rfl ?_
      refine st_iload_n (q := 21) dX7_copies_20 rfl rfl rfl ?_
      refine st_iadd (q := 22) dX7_copies_21 rfl ?_
      refine m_sld (q := 23) dX7_copies_22 rfl hM (by exact ix2  (by omega) (by decide)) ?_
      refine m_sst (q := 24) dX7_copies_23 rfl hM (by exact ix2  (by omega) (by decide)) (fun w hM hF_ => ?_)
      replace hF := Fr.tr hF hF_
      refine st_iinc (q := 27) (L' := [_, _, _, _]) dX7_copies_24 rfl rfl (nI_succ _).symm (Nat.le_of_ble_eq_true rfl) rfl ?_
      refine st_goto (q := 2) dX7_copies_27 rfl ?_
      exact ih (i + 1) (by omega) w hM hF
  refine st_iconst (q := 1) dX7_copies_0 rfl ic_0 ?_
  refine st_istore_n (q := 2) (L' := [_, _, _, _]) dX7_copies_1 rfl rfl (Nat.le_of_ble_eq_true rfl) rfl ?_
  exact lp 71 0 (by omega) w hM hF
set_option maxRecDepth 100000 in
set_option maxHeartbeats 4000000 in
theorem c_X7_dayOn {E : ev_E} {n : Nat} {w : ev_W} {S : gT} {f : Nat → Int32} {b : Nat} (hM : MR S f b n w) {p : Nat} (hp : p + 71 ≤ 426) {nt : Nat} (e2 : S 2 0 = nI nt) (hnt : nt ≤ 8) {nh : Nat} (e1 : S 1 0 = nI nh) (hnh : nh ≤ 4) {ri : Int32} : Ct E mX7_dayOn [.ref b, .int (nI p), .int ri] n w (ev_ch none n w b (b + 12) (MR S (dayM f p ri nh nt) b n)) := by
  refine Ct.of 4 (by decide) (Nat.le_of_ble_eq_true rfl) rfl ?_
  have hF : Fr b (b + 12) w w := Fr.rf
  have lp : ∀ (lv : Int32) (k i : Nat), i + k = nh → ∀ (w1 : ev_W), MR S (dhsM p lv nt (upd f (p + 68) lv) i) b n w1 → Fr b (b + 12) w w1 → Ev E mX7_dayOn 46 [some (.ref b), some (.int (nI p)), some (.int ri), some (.int lv), some (.int (nI i)), none, none] [] n w1 (0, 0) (ev_ch none n w b (b + 12) (MR S (dymM f p lv nh nt) b n)) := by
    clear hF hM
    intro lv k
    induction k with
    | zero =>
      intro i hi w hM hF
      obtain rfl : i = nh := hi
      refine st_iload (q := 48) dX7_dayOn_46 rfl rfl ?_
      refine st_aload_n (q := 49) dX7_dayOn_48 rfl rfl rfl ?_
      refine m_get (q := 52) dX7_dayOn_49 rfl fl_X7_136.g hM (by decide) rfl ?_
      refine st_icmp_ge (q := 55) (tgt := 192) dX7_dayOn_52 rfl rfl (fun c_52 => ?_) (fun c_52 => False.elim (c_52 (by rw [e1]; exact nI_le (by omega) (by omega))))
      refine st_aload_n (q := 193) dX7_dayOn_192 rfl rfl rfl ?_
      refine g_getA (q := 196) dX7_dayOn_193 rfl fl_X7_7.g hM rfl ?_
      refine st_iload_n (q := 197) dX7_dayOn_196 rfl rfl rfl ?_
      refine st_bipush (q := 199) dX7_dayOn_197 rfl bp_69 ?_
      refine st_iadd (q := 200) dX7_dayOn_199 rfl ?_
      refine st_dup2 (q := 201) dX7_dayOn_200 rfl rfl rfl ?_
      refine m_sld (q := 202) dX7_dayOn_201 rfl hM (by exact ix2 (b := 69) (by omega) (by decide)) ?_
      refine st_iconst (q := 203) dX7_dayOn_202 rfl ic_1 ?_
      refine st_iadd (q := 204) dX7_dayOn_203 rfl ?_
      refine m_sst (q := 205) dX7_dayOn_204 rfl hM (by exact ix2 (b := 69) (by omega) (by decide)) (fun w hM hF_ => ?_)
      replace hF := Fr.tr hF hF_
      refine st_return dX7_dayOn_205 rfl ?_
      exact ⟨rfl, rfl, hM, hF⟩
    | succ k ih =>
      intro i hi w1 hM1 hF1
      have aft : ∀ (g : Nat → Int32) (w2 : ev_W) (x6 : Int32), MR S g b n w2 → Fr b (b + 12) w w2 → dhM (dhsM p lv nt (upd f (p + 68) lv) i) p lv i nt = floM (upd g (p + 16 + i) 1) p (nI i) i nt → Ev E mX7_dayOn 152 [some (.ref b), some (.int (nI p)), some (.int ri), some (.int lv), some (.int (nI i)), some (.int 1), some (.int x6)] [] n w2 (0, 0) (ev_ch none n w b (b + 12) (MR S (dymM f p lv nh nt) b n)) := by
        clear hM1 hF1
        intro g w x6 hM hF hg
        refine st_aload_n (q := 153) dX7_dayOn_152 rfl rfl rfl ?_
        refine g_getA (q := 156) dX7_dayOn_153 rfl fl_X7_7.g hM rfl ?_
        refine st_iload_n (q := 157) dX7_dayOn_156 rfl rfl rfl ?_
        refine st_bipush (q := 159) dX7_dayOn_157 rfl bp_16 ?_
        refine st_iadd (q := 160) dX7_dayOn_159 rfl ?_
        refine st_iload (q := 162) dX7_dayOn_160 rfl rfl ?_
        refine st_iadd (q := 163) dX7_dayOn_162 rfl ?_
        refine st_iload (q := 165) dX7_dayOn_163 rfl rfl ?_
        refine st_if_eq (q := 168) (tgt := 172) dX7_dayOn_165 rfl rfl (fun c_165 => False.elim (absurd c_165 (by decide))) (fun c_165 => ?_)
        refine st_iconst (q := 169) dX7_dayOn_168 rfl ic_1 ?_
        refine st_goto (q := 173) dX7_dayOn_169 rfl ?_
        refine m_sst (q := 174) dX7_dayOn_173 rfl hM (by exact ix3 (b := 16) (by omega) (by decide)) (fun w hM hF_ => ?_)
        replace hF := Fr.tr hF hF_
        refine st_iload (q := 176) dX7_dayOn_174 rfl rfl ?_
        refine st_if_eq (q := 179) (tgt := 186) dX7_dayOn_176 rfl rfl (fun c_176 => False.elim (absurd c_176 (by decide))) (fun c_176 => ?_)
        refine st_aload_n (q := 180) dX7_dayOn_179 rfl rfl rfl ?_
        refine st_iload_n (q := 181) dX7_dayOn_180 rfl rfl rfl ?_
        refine st_iload (q := 183) dX7_dayOn_181 rfl rfl ?_
        refine sm_V2 (q := 186) (M' := mX7_floatsOn) dX7_dayOn_183 rfl ok_X7_floatsOn mk_X7_floatsOn ml_X7_158 ⟨Nat.le_of_ble_eq_true rfl, Nat.le_of_ble_eq_true rfl⟩ rfl (Nat.le_of_ble_eq_true rfl) (g_rv hM rfl) ⟨rfl, rfl⟩ (c_X7_floatsOn hM hp e2 hnt (hj := i) (by omega)) ?_
        intro _ _ w h9 _
        obtain ⟨rfl, rfl, hM, hF_⟩ := h9
        replace hF := Fr.tr hF hF_
        refine st_iinc (q := 189) (L' := [_, _, _, _, _, _, _]) dX7_dayOn_186 rfl rfl (nI_succ _).symm (Nat.le_of_ble_eq_true rfl) rfl ?_
        refine st_goto (q := 46) dX7_dayOn_189 rfl ?_
        refine Ev.weak (L' := [_, _, _, _, _, none, none]) (ev_le_s (ev_le_s (ev_le_s (ev_le_s (ev_le_s (ev_le_n (ev_le_n ev_le_0))))))) ?_
        refine ih (i + 1) (by omega) w ?_ hF
        rw [dhsM, hg]
        exact hM
      have aft0 : ∀ (g : Nat → Int32) (w2 : ev_W) (x6 : Int32), MR S g b n w2 → Fr b (b + 12) w w2 → lv ≤ dhsM p lv nt (upd f (p + 68) lv) i (p + i) → dhsM p lv nt (upd f (p + 68) lv) i = g → Ev E mX7_dayOn 152 [some (.ref b), some (.int (nI p)), some (.int ri), some (.int lv), some (.int (nI i)), some (.int 0), some (.int x6)] [] n w2 (0, 0) (ev_ch none n w b (b + 12) (MR S (dymM f p lv nh nt) b n)) := by
        clear hM1 hF1
        intro g w x6 hM hF hg he
        subst he
        refine st_aload_n (q := 153) dX7_dayOn_152 rfl rfl rfl ?_
        refine g_getA (q := 156) dX7_dayOn_153 rfl fl_X7_7.g hM rfl ?_
        refine st_iload_n (q := 157) dX7_dayOn_156 rfl rfl rfl ?_
        refine st_bipush (q := 159) dX7_dayOn_157 rfl bp_16 ?_
        refine st_iadd (q := 160) dX7_dayOn_159 rfl ?_
        refine st_iload (q := 162) dX7_dayOn_160 rfl rfl ?_
        refine st_iadd (q := 163) dX7_dayOn_162 rfl ?_
        refine st_iload (q := 165) dX7_dayOn_163 rfl rfl ?_
        refine st_if_eq (q := 168) (tgt := 172) dX7_dayOn_165 rfl rfl (fun c_165 => ?_) (fun c_165 => False.elim (c_165 rfl))
        refine st_iconst (q := 173) dX7_dayOn_172 rfl ic_0 ?_
        refine m_sst (q := 174) dX7_dayOn_173 rfl hM (by exact ix3 (b := 16) (by omega) (by decide)) (fun w hM hF_ => ?_)
        replace hF := Fr.tr hF hF_
        refine st_iload (q := 176) dX7_dayOn_174 rfl rfl ?_
        refine st_if_eq (q := 179) (tgt := 186) dX7_dayOn_176 rfl rfl (fun c_176 => ?_) (fun c_176 => False.elim (c_176 rfl))
        refine st_iinc (q := 189) (L' := [_, _, _, _, _, _, _]) dX7_dayOn_186 rfl rfl (nI_succ _).symm (Nat.le_of_ble_eq_true rfl) rfl ?_
        refine st_goto (q := 46) dX7_dayOn_189 rfl ?_
        refine Ev.weak (L' := [_, _, _, _, _, none, none]) (ev_le_s (ev_le_s (ev_le_s (ev_le_s (ev_le_s (ev_le_n (ev_le_n ev_le_0))))))) ?_
        refine ih (i + 1) (by omega) w ?_ hF
        rw [dhsM, dhM, if_pos hg]
        exact hM
      have inl : ¬ lv ≤ dhsM p lv nt (upd f (p + 68) lv) i (p + i) → dhsM p lv nt (upd f (p + 68) lv) i (p + 16 + i) = 0 → ∀ (k2 m : Nat), m + k2 = nt → ∀ (w2 : ev_W), MR S (dlM (dhsM p lv nt (upd f (p + 68) lv) i) p (nI i) m) b n w2 → Fr b (b + 12) w w2 → Ev E mX7_dayOn 78 [some (.ref b), some (.int (nI p)), some (.int ri), some (.int lv), some (.int (nI i)), some (.int 1), some (.int (nI m))] [] n w2 (0, 0) (ev_ch none n w b (b + 12) (MR S (dymM f p lv nh nt) b n)) := by
        clear hM1 hF1
        intro hlv hfl k2
        induction k2 with
        | zero =>
          intro m hm w hM hF
          obtain rfl : m = nt := hm
          refine st_iload (q := 80) dX7_dayOn_78 rfl rfl ?_
          refine st_aload_n (q := 81) dX7_dayOn_80 rfl rfl rfl ?_
          refine m_get (q := 84) dX7_dayOn_81 rfl fl_X7_139.g hM (by decide) rfl ?_
          refine st_icmp_ge (q := 87) (tgt := 152) dX7_dayOn_84 rfl rfl (fun c_84 => ?_) (fun c_84 => False.elim (c_84 (by rw [e2]; exact nI_le (by omega) (by omega))))
          exact aft _ w _ hM hF (by rw [dhM, if_neg hlv, if_pos hfl])
        | succ k2 ih2 =>
          intro m hm w hM hF
          refine st_iload (q := 80) dX7_dayOn_78 rfl rfl ?_
          refine st_aload_n (q := 81) dX7_dayOn_80 rfl rfl rfl ?_
          refine m_get (q := 84) dX7_dayOn_81 rfl fl_X7_139.g hM (by decide) rfl ?_
          refine st_icmp_ge (q := 87) (tgt := 152) dX7_dayOn_84 rfl rfl (fun c_84 => False.elim (absurd (by rw [← e2]; exact c_84) (nI_ge (a := m) (b := nt) (by omega) (by omega)))) (fun c_84 => ?_)
          refine st_iload (q := 89) dX7_dayOn_87 rfl rfl ?_
          refine st_if_eq (q := 92) (tgt := 152) dX7_dayOn_89 rfl rfl (fun c_89 => False.elim (absurd c_89 (by decide))) (fun c_89 => ?_)
          refine st_aload_n (q := 93) dX7_dayOn_92 rfl rfl rfl ?_
          refine g_getA (q := 96) dX7_dayOn_93 rfl fl_X7_7.g hM rfl ?_
          refine st_iload_n (q := 97) dX7_dayOn_96 rfl rfl rfl ?_
          refine st_bipush (q := 99) dX7_dayOn_97 rfl bp_16 ?_
          refine st_iadd (q := 100) dX7_dayOn_99 rfl ?_
          refine st_iload (q := 102) dX7_dayOn_100 rfl rfl ?_
          refine st_iadd (q := 103) dX7_dayOn_102 rfl ?_
          refine m_sld (q := 104) dX7_dayOn_103 rfl hM (by exact ix3 (b := 16) (by omega) (by decide)) ?_
          refine st_if_ne (q := 107) (tgt := 152) dX7_dayOn_104 rfl rfl (fun c_104 => False.elim (c_104 (by rw [dlM_n (by omega) (by omega) m (by omega)]; exact hfl))) (fun c_104 => ?_)
          refine st_aload_n (q := 108) dX7_dayOn_107 rfl rfl rfl ?_
          refine g_getA (q := 111) dX7_dayOn_108 rfl fl_X7_7.g hM rfl ?_
          refine st_iload_n (q := 112) dX7_dayOn_111 rfl rfl rfl ?_
          refine st_bipush (q := 114) dX7_dayOn_112 rfl bp_28 ?_
          refine st_iadd (q := 115) dX7_dayOn_114 rfl ?_
          refine st_iload (q := 117) dX7_dayOn_115 rfl rfl ?_
          refine st_iadd (q := 118) dX7_dayOn_117 rfl ?_
          refine m_sld (q := 119) dX7_dayOn_118 rfl hM (by exact ix3 (b := 28) (by omega) (by decide)) ?_
          refine st_iload (q := 121) dX7_dayOn_119 rfl rfl ?_
          refine st_icmp_ne (q := 124) (tgt := 146) dX7_dayOn_121 rfl rfl (fun c_121 => ?_) (fun c_121 => ?_)
          · refine st_iinc (q := 149) (L' := [_, _, _, _, _, _, _]) dX7_dayOn_146 rfl rfl (nI_succ _).symm (Nat.le_of_ble_eq_true rfl) rfl ?_
            refine st_goto (q := 78) dX7_dayOn_149 rfl ?_
            first
              | (refine ih2 (m + 1) (by omega) w ?_ hF; rw [dlM, if_pos c_121, if_pos c_136]; exact hM)
              | (refine ih2 (m + 1) (by omega) w ?_ hF; rw [dlM, if_pos c_121, if_neg c_136]; exact hM)
              | (refine ih2 (m + 1) (by omega) w ?_ hF; rw [dlM, if_neg c_121]; exact hM)
          · refine st_aload_n (q := 125) dX7_dayOn_124 rfl rfl rfl ?_
            refine g_getA (q := 128) dX7_dayOn_125 rfl fl_X7_7.g hM rfl ?_
            refine st_iload_n (q := 129) dX7_dayOn_128 rfl rfl rfl ?_
            refine st_bipush (q := 131) dX7_dayOn_129 rfl bp_52 ?_
            refine st_iadd (q := 132) dX7_dayOn_131 rfl ?_
            refine st_iload (q := 134) dX7_dayOn_132 rfl rfl ?_
            refine st_iadd (q := 135) dX7_dayOn_134 rfl ?_
            refine m_sld (q := 136) dX7_dayOn_135 rfl hM (by exact ix3 (b := 52) (by omega) (by decide)) ?_
            refine st_if_ne (q := 139) (tgt := 146) dX7_dayOn_136 rfl rfl (fun c_136 => ?_) (fun c_136 => ?_)
            · refine st_iinc (q := 149) (L' := [_, _, _, _, _, _, _]) dX7_dayOn_146 rfl rfl (nI_succ _).symm (Nat.le_of_ble_eq_true rfl) rfl ?_
              refine st_goto (q := 78) dX7_dayOn_149 rfl ?_
              first
                | (refine ih2 (m + 1) (by omega) w ?_ hF; rw [dlM, if_pos c_121, if_pos c_136]; exact hM)
                | (refine ih2 (m + 1) (by omega) w ?_ hF; rw [dlM, if_pos c_121, if_neg c_136]; exact hM)
                | (refine ih2 (m + 1) (by omega) w ?_ hF; rw [dlM, if_neg c_121]; exact hM)
            · refine st_aload_n (q := 140) dX7_dayOn_139 rfl rfl rfl ?_
              refine st_iload_n (q := 141) dX7_dayOn_140 rfl rfl rfl ?_
              refine st_iload (q := 143) dX7_dayOn_141 rfl rfl ?_
              refine sm_V2 (q := 146) (M' := mX7_losesOn) dX7_dayOn_143 rfl ok_X7_losesOn mk_X7_losesOn ml_X7_154 ⟨Nat.le_of_ble_eq_true rfl, Nat.le_of_ble_eq_true rfl⟩ rfl (Nat.le_of_ble_eq_true rfl) (g_rv hM rfl) ⟨rfl, rfl⟩ (c_X7_losesOn hM hp (j := m) (by omega)) ?_
              intro _ _ w h9 _
              obtain ⟨rfl, rfl, hM, hF_⟩ := h9
              replace hF := Fr.tr hF hF_
              refine st_iinc (q := 149) (L' := [_, _, _, _, _, _, _]) dX7_dayOn_146 rfl rfl (nI_succ _).symm (Nat.le_of_ble_eq_true rfl) rfl ?_
              refine st_goto (q := 78) dX7_dayOn_149 rfl ?_
              first
                | (refine ih2 (m + 1) (by omega) w ?_ hF; rw [dlM, if_pos c_121, if_pos c_136]; exact hM)
                | (refine ih2 (m + 1) (by omega) w ?_ hF; rw [dlM, if_pos c_121, if_neg c_136]; exact hM)
                | (refine ih2 (m + 1) (by omega) w ?_ hF; rw [dlM, if_neg c_121]; exact hM)
      have inf : ¬ lv ≤ dhsM p lv nt (upd f (p + 68) lv) i (p + i) → ¬ dhsM p lv nt (upd f (p + 68) lv) i (p + 16 + i) = 0 → ∀ (w2 : ev_W), MR S (dhsM p lv nt (upd f (p + 68) lv) i) b n w2 → Fr b (b + 12) w w2 → Ev E mX7_dayOn 78 [some (.ref b), some (.int (nI p)), some (.int ri), some (.int lv), some (.int (nI i)), some (.int 1), some (.int 0)] [] n w2 (0, 0) (ev_ch none n w b (b + 12) (MR S (dymM f p lv nh nt) b n)) := by
        clear hM1 hF1
        intro hlv hfl w hM hF
        refine st_iload (q := 80) dX7_dayOn_78 rfl rfl ?_
        refine st_aload_n (q := 81) dX7_dayOn_80 rfl rfl rfl ?_
        refine m_get (q := 84) dX7_dayOn_81 rfl fl_X7_139.g hM (by decide) rfl ?_
        refine st_icmp_ge (q := 87) (tgt := 152) dX7_dayOn_84 rfl rfl (fun c_84 => ?_) (fun c_84 => ?_)
        · exact aft _ w _ hM hF (by rw [dhM, if_neg hlv, if_neg hfl])
        · refine st_iload (q := 89) dX7_dayOn_87 rfl rfl ?_
          refine st_if_eq (q := 92) (tgt := 152) dX7_dayOn_89 rfl rfl (fun c_89 => False.elim (absurd c_89 (by decide))) (fun c_89 => ?_)
          refine st_aload_n (q := 93) dX7_dayOn_92 rfl rfl rfl ?_
          refine g_getA (q := 96) dX7_dayOn_93 rfl fl_X7_7.g hM rfl ?_
          refine st_iload_n (q := 97) dX7_dayOn_96 rfl rfl rfl ?_
          refine st_bipush (q := 99) dX7_dayOn_97 rfl bp_16 ?_
          refine st_iadd (q := 100) dX7_dayOn_99 rfl ?_
          refine st_iload (q := 102) dX7_dayOn_100 rfl rfl ?_
          refine st_iadd (q := 103) dX7_dayOn_102 rfl ?_
          refine m_sld (q := 104) dX7_dayOn_103 rfl hM (by exact ix3 (b := 16) (by omega) (by decide)) ?_
          refine st_if_ne (q := 107) (tgt := 152) dX7_dayOn_104 rfl rfl (fun c_104 => ?_) (fun c_104 => False.elim (hfl c_104))
          exact aft _ w _ hM hF (by rw [dhM, if_neg hlv, if_neg hfl])
      have inn : lv ≤ dhsM p lv nt (upd f (p + 68) lv) i (p + i) → ∀ (w2 : ev_W), MR S (dhsM p lv nt (upd f (p + 68) lv) i) b n w2 → Fr b (b + 12) w w2 → Ev E mX7_dayOn 78 [some (.ref b), some (.int (nI p)), some (.int ri), some (.int lv), some (.int (nI i)), some (.int 0), some (.int 0)] [] n w2 (0, 0) (ev_ch none n w b (b + 12) (MR S (dymM f p lv nh nt) b n)) := by
        clear hM1 hF1
        intro hlv w hM hF
        refine st_iload (q := 80) dX7_dayOn_78 rfl rfl ?_
        refine st_aload_n (q := 81) dX7_dayOn_80 rfl rfl rfl ?_
        refine m_get (q := 84) dX7_dayOn_81 rfl fl_X7_139.g hM (by decide) rfl ?_
        refine st_icmp_ge (q := 87) (tgt := 152) dX7_dayOn_84 rfl rfl (fun c_84 => ?_) (fun c_84 => ?_)
        · exact aft0 _ w _ hM hF hlv rfl
        · refine st_iload (q := 89) dX7_dayOn_87 rfl rfl ?_
          refine st_if_eq (q := 92) (tgt := 152) dX7_dayOn_89 rfl rfl (fun c_89 => ?_) (fun c_89 => False.elim (c_89 rfl))
          exact aft0 _ w _ hM hF hlv rfl
      have hM := hM1
      have hF := hF1
      clear hM1 hF1
      generalize w1 = w at hM hF ⊢
      refine st_iload (q := 48) dX7_dayOn_46 rfl rfl ?_
      refine st_aload_n (q := 49) dX7_dayOn_48 rfl rfl rfl ?_
      refine m_get (q := 52) dX7_dayOn_49 rfl fl_X7_136.g hM (by decide) rfl ?_
      refine st_icmp_ge (q := 55) (tgt := 192) dX7_dayOn_52 rfl rfl (fun c_52 => False.elim (absurd (by rw [← e1]; exact c_52) (nI_ge (a := i) (b := nh) (by omega) (by omega)))) (fun c_52 => ?_)
      refine st_iload_n (q := 56) dX7_dayOn_55 rfl rfl rfl ?_
      refine st_aload_n (q := 57) dX7_dayOn_56 rfl rfl rfl ?_
      refine g_getA (q := 60) dX7_dayOn_57 rfl fl_X7_7.g hM rfl ?_
      refine st_iload_n (q := 61) dX7_dayOn_60 rfl rfl rfl ?_
      refine st_iload (q := 63) dX7_dayOn_61 rfl rfl ?_
      refine st_iadd (q := 64) dX7_dayOn_63 rfl ?_
      refine m_sld (q := 65) dX7_dayOn_64 rfl hM (by exact ix2  (by omega) (by decide)) ?_
      refine st_icmp_le (q := 68) (tgt := 72) dX7_dayOn_65 rfl rfl (fun c_65 => ?_) (fun c_65 => ?_)
      · refine st_iconst (q := 73) dX7_dayOn_72 rfl ic_0 ?_
        refine st_istore (q := 75) (L' := [_, _, _, _, _, _, _]) dX7_dayOn_73 rfl (Nat.le_of_ble_eq_true rfl) rfl ?_
        refine st_iconst (q := 76) dX7_dayOn_75 rfl ic_0 ?_
        refine st_istore (q := 78) (L' := [_, _, _, _, _, _, _]) dX7_dayOn_76 rfl (Nat.le_of_ble_eq_true rfl) rfl ?_
        first
          | exact inn c_65 w hM hF
          | (by_cases hfl : dhsM p lv nt (upd f (p + 68) lv) i (p + 16 + i) = 0
             · exact inl c_65 hfl nt 0 (by omega) w hM hF
             · exact inf c_65 hfl w hM hF)
      · refine st_iconst (q := 69) dX7_dayOn_68 rfl ic_1 ?_
        refine st_goto (q := 73) dX7_dayOn_69 rfl ?_
        refine st_istore (q := 75) (L' := [_, _, _, _, _, _, _]) dX7_dayOn_73 rfl (Nat.le_of_ble_eq_true rfl) rfl ?_
        refine st_iconst (q := 76) dX7_dayOn_75 rfl ic_0 ?_
        refine st_istore (q := 78) (L' := [_, _, _, _, _, _, _]) dX7_dayOn_76 rfl (Nat.le_of_ble_eq_true rfl) rfl ?_
        first
          | exact inn c_65 w hM hF
          | (by_cases hfl : dhsM p lv nt (upd f (p + 68) lv) i (p + 16 + i) = 0
             · exact inl c_65 hfl nt 0 (by omega) w hM hF
             · exact inf c_65 hfl w hM hF)
  refine st_aload_n (q := 1) dX7_dayOn_0 rfl rfl rfl ?_
  refine g_getA (q := 4) dX7_dayOn_1 rfl fl_X7_7.g hM rfl ?_
  refine st_iload_n (q := 5) dX7_dayOn_4 rfl rfl rfl ?_
  refine st_bipush (q := 7) dX7_dayOn_5 rfl bp_68 ?_
  refine st_iadd (q := 8) dX7_dayOn_7 rfl ?_
  refine m_sld (q := 9) dX7_dayOn_8 rfl hM (by exact ix2 (b := 68) (by omega) (by decide)) ?_
  refine st_iload_n (q := 10) dX7_dayOn_9 rfl rfl rfl ?_
  refine st_iadd (q := 11) dX7_dayOn_10 rfl ?_
  refine st_istore_n (q := 12) (L' := [_, _, _, _, _, _, _]) dX7_dayOn_11 rfl rfl (Nat.le_of_ble_eq_true rfl) rfl ?_
  refine st_iload_n (q := 13) dX7_dayOn_12 rfl rfl rfl ?_
  refine st_if_ge (q := 16) (tgt := 20) dX7_dayOn_13 rfl rfl (fun c_13 => ?_) (fun c_13 => ?_)
  · refine st_iload_n (q := 21) dX7_dayOn_20 rfl rfl rfl ?_
    refine st_bipush (q := 23) dX7_dayOn_21 rfl bp_20 ?_
    refine st_icmp_le (q := 26) (tgt := 31) dX7_dayOn_23 rfl rfl (fun c_23 => ?_) (fun c_23 => ?_)
    · refine st_iload_n (q := 32) dX7_dayOn_31 rfl rfl rfl ?_
      refine st_istore_n (q := 33) (L' := [_, _, _, _, _, _, _]) dX7_dayOn_32 rfl rfl (Nat.le_of_ble_eq_true rfl) rfl ?_
      refine st_aload_n (q := 34) dX7_dayOn_33 rfl rfl rfl ?_
      refine g_getA (q := 37) dX7_dayOn_34 rfl fl_X7_7.g hM rfl ?_
      refine st_iload_n (q := 38) dX7_dayOn_37 rfl rfl rfl ?_
      refine st_bipush (q := 40) dX7_dayOn_38 rfl bp_68 ?_
      refine st_iadd (q := 41) dX7_dayOn_40 rfl ?_
      refine st_iload_n (q := 42) dX7_dayOn_41 rfl rfl rfl ?_
      refine m_sst (q := 43) dX7_dayOn_42 rfl hM (by exact ix2 (b := 68) (by omega) (by decide)) (fun w hM hF_ => ?_)
      replace hF := Fr.tr hF hF_
      refine st_iconst (q := 44) dX7_dayOn_43 rfl ic_0 ?_
      refine st_istore (q := 46) (L' := [_, _, _, _, _, _, _]) dX7_dayOn_44 rfl (Nat.le_of_ble_eq_true rfl) rfl ?_
      first
        | (rw [dayM, lvM, if_neg c_13]; exact lp 0 nh 0 (by omega) w hM hF)
        | (rw [dayM, lvM, if_pos c_13, if_pos c_23]; exact lp _ nh 0 (by omega) w hM hF)
        | (rw [dayM, lvM, if_pos c_13, if_neg c_23]; exact lp 20 nh 0 (by omega) w hM hF)
    · refine st_bipush (q := 28) dX7_dayOn_26 rfl bp_20 ?_
      refine st_goto (q := 32) dX7_dayOn_28 rfl ?_
      refine st_istore_n (q := 33) (L' := [_, _, _, _, _, _, _]) dX7_dayOn_32 rfl rfl (Nat.le_of_ble_eq_true rfl) rfl ?_
      refine st_aload_n (q := 34) dX7_dayOn_33 rfl rfl rfl ?_
      refine g_getA (q := 37) dX7_dayOn_34 rfl fl_X7_7.g hM rfl ?_
      refine st_iload_n (q := 38) dX7_dayOn_37 rfl rfl rfl ?_
      refine st_bipush (q := 40) dX7_dayOn_38 rfl bp_68 ?_
      refine st_iadd (q := 41) dX7_dayOn_40 rfl ?_
      refine st_iload_n (q := 42) dX7_dayOn_41 rfl rfl rfl ?_
      refine m_sst (q := 43) dX7_dayOn_42 rfl hM (by exact ix2 (b := 68) (by omega) (by decide)) (fun w hM hF_ => ?_)
      replace hF := Fr.tr hF hF_
      refine st_iconst (q := 44) dX7_dayOn_43 rfl ic_0 ?_
      refine st_istore (q := 46) (L' := [_, _, _, _, _, _, _]) dX7_dayOn_44 rfl (Nat.le_of_ble_eq_true rfl) rfl ?_
      first
        | (rw [dayM, lvM, if_neg c_13]; exact lp 0 nh 0 (by omega) w hM hF)
        | (rw [dayM, lvM, if_pos c_13, if_pos c_23]; exact lp _ nh 0 (by omega) w hM hF)
        | (rw [dayM, lvM, if_pos c_13, if_neg c_23]; exact lp 20 nh 0 (by omega) w hM hF)
  · refine st_iconst (q := 17) dX7_dayOn_16 rfl ic_0 ?_
    refine st_goto (q := 32) dX7_dayOn_17 rfl ?_
    refine st_istore_n (q := 33) (L' := [_, _, _, _, _, _, _]) dX7_dayOn_32 rfl rfl (Nat.le_of_ble_eq_true rfl) rfl ?_
    refine st_aload_n (q := 34) dX7_dayOn_33 rfl rfl rfl ?_
    refine g_getA (q := 37) dX7_dayOn_34 rfl fl_X7_7.g hM rfl ?_
    refine st_iload_n (q := 38) dX7_dayOn_37 rfl rfl rfl ?_
    refine st_bipush (q := 40) dX7_dayOn_38 rfl bp_68 ?_
    refine st_iadd (q := 41) dX7_dayOn_40 rfl ?_
    refine st_iload_n (q := 42) dX7_dayOn_41 rfl rfl rfl ?_
    refine m_sst (q := 43) dX7_dayOn_42 rfl hM (by exact ix2 (b := 68) (by omega) (by decide)) (fun w hM hF_ => ?_)
    replace hF := Fr.tr hF hF_
    refine st_iconst (q := 44) dX7_dayOn_43 rfl ic_0 ?_
    refine st_istore (q := 46) (L' := [_, _, _, _, _, _, _]) dX7_dayOn_44 rfl (Nat.le_of_ble_eq_true rfl) rfl ?_
    first
      | (rw [dayM, lvM, if_neg c_13]; exact lp 0 nh 0 (by omega) w hM hF)
      | (rw [dayM, lvM, if_pos c_13, if_pos c_23]; exact lp _ nh 0 (by omega) w hM hF)
      | (rw [dayM, lvM, if_pos c_13, if_neg c_23]; exact lp 20 nh 0 (by omega) w hM hF)
def gM (f : Nat → Int32) (p dd nh nt : Nat) (k : Nat) : Nat → Int32 := dysM (cpyM f p 284 71) 284 dd nh nt k
def grM (f : Nat → Int32) (p dd nh nt : Nat) : Nat → Int32
  | 0 => gM f p dd nh nt 0 352
  | k + 1 => if gM f p dd nh nt (k + 1) 352 ≤ grM f p dd nh nt k then grM f p dd nh nt k else gM f p dd nh nt (k + 1) 352
theorem gM_69 {f : Nat → Int32} {p dd nh nt : Nat} (hp : p + 71 ≤ 284 ∨ 355 ≤ p) (hnh : nh ≤ 4) (hnt : nt ≤ 8) (e : f (p + 69) = nI dd) (k : Nat) : gM f p dd nh nt k (284 + 69) = nI (dd + k) := by
  refine dysM_69 hnh hnt ?_ k
  rw [cpyM_in (by omega) (by decide)]
  exact e
theorem gM_lo {f : Nat → Int32} {p dd nh nt j : Nat} (hp : p + 71 ≤ 284 ∨ 355 ≤ p) (hnh : nh ≤ 4) (hnt : nt ≤ 8) (hj : j < 284 ∨ 355 ≤ j) (k : Nat) : gM f p dd nh nt k j = f j := by
  rw [gM, dysM_n hnh hnt (by unfold inD; omega), cpyM_out (by omega) (by omega)]
set_option maxRecDepth 100000 in
set_option maxHeartbeats 4000000 in
theorem c_X7_daysGo {E : ev_E} {n : Nat} {w : ev_W} {S : gT} {f : Nat → Int32} {b : Nat} (hM : MR S f b n w) {p : Nat} (hp : p + 71 ≤ 426) (hpd : p + 71 ≤ 284 ∨ 355 ≤ p) {nt : Nat} (e2 : S 2 0 = nI nt) (hnt : nt ≤ 8) {nh : Nat} (e1 : S 1 0 = nI nh) (hnh : nh ≤ 4) {dd : Nat} (ed : f (p + 69) = nI dd) {m : Nat} (hm : m ≤ 1000) (hdd : dd + 1000 < 2 ^ 31) : Ct E mX7_daysGo [.ref b, .int (nI p), .int (nI m)] n w (fun a u v => a = some (.int (gM f p dd nh nt m 354 - f 70)) ∧ u = n ∧ MR (tup S 20 0 (grM f p dd nh nt m)) (gM f p dd nh nt m) b n v ∧ Fr b (b + 12) w v) := by
  refine Ct.of 1 (by decide) (Nat.le_of_ble_eq_true rfl) rfl ?_
  have hF : Fr b (b + 12) w w := Fr.rf
  have lp : ∀ (k i : Nat), i + k = m → ∀ (w1 : ev_W), MR (tup S 20 0 (grM f p dd nh nt i)) (gM f p dd nh nt i) b n w1 → Fr b (b + 12) w w1 → Ev E mX7_daysGo 22 [some (.ref b), some (.int (nI p)), some (.int (nI m)), some (.int (nI i))] [] n w1 (0, 0) (fun a u v => a = some (.int (gM f p dd nh nt m 354 - f 70)) ∧ u = n ∧ MR (tup S 20 0 (grM f p dd nh nt m)) (gM f p dd nh nt m) b n v ∧ Fr b (b + 12) w v) := by
    clear hF hM
    intro k
    induction k with
    | zero =>
      intro i hi w hM hF
      obtain rfl : i = m := hi
      refine st_iload_n (q := 23) dX7_daysGo_22 rfl rfl rfl ?_
      refine st_iload_n (q := 24) dX7_daysGo_23 rfl rfl rfl ?_
      refine st_icmp_ge (q := 27) (tgt := 81) dX7_daysGo_24 rfl rfl (fun c_24 => ?_) (fun c_24 => False.elim (c_24 (nI_le (by omega) (by omega))))
      refine st_aload_n (q := 82) dX7_daysGo_81 rfl rfl rfl ?_
      refine g_getA (q := 85) dX7_daysGo_82 rfl fl_X7_7.g hM rfl ?_
      refine st_sipush (q := 88) dX7_daysGo_85 rfl sp_354 ?_
      refine m_sld (q := 89) dX7_daysGo_88 rfl hM (by exact ev_ix_nI (j := 354) (by decide) (by decide)) ?_
      refine st_aload_n (q := 90) dX7_daysGo_89 rfl rfl rfl ?_
      refine g_getA (q := 93) dX7_daysGo_90 rfl fl_X7_7.g hM rfl ?_
      refine st_bipush (q := 95) dX7_daysGo_93 rfl bp_70 ?_
      refine m_sld (q := 96) dX7_daysGo_95 rfl hM (by exact ev_ix_nI (j := 70) (by decide) (by decide)) ?_
      refine st_isub (q := 97) dX7_daysGo_96 rfl ?_
      refine st_ireturn dX7_daysGo_97 rfl ?_
      rw [gM_lo (j := 70) hpd hnh hnt (Or.inl (by decide))]
      exact ⟨rfl, rfl, hM, hF⟩
    | succ k ih =>
      intro i hi w hM hF
      refine st_iload_n (q := 23) dX7_daysGo_22 rfl rfl rfl ?_
      refine st_iload_n (q := 24) dX7_daysGo_23 rfl rfl rfl ?_
      refine st_icmp_ge (q := 27) (tgt := 81) dX7_daysGo_24 rfl rfl (fun c_24 => False.elim (absurd c_24 (nI_ge (a := i) (b := m) (by omega) (by omega)))) (fun c_24 => ?_)
      refine st_aload_n (q := 28) dX7_daysGo_27 rfl rfl rfl ?_
      refine st_sipush (q := 31) dX7_daysGo_28 rfl sp_284 ?_
      refine st_aload_n (q := 32) dX7_daysGo_31 rfl rfl rfl ?_
      refine st_sipush (q := 35) dX7_daysGo_32 rfl sp_284 ?_
      refine sp_V1 (q := 38) (M' := mX7_riseOn) dX7_daysGo_35 rfl ok_X7_riseOn mk_X7_riseOn ml_X7_194 ⟨Nat.le_of_ble_eq_true rfl, Nat.le_of_ble_eq_true rfl⟩ rfl (Nat.le_of_ble_eq_true rfl) (g_rv hM rfl) ⟨rfl, rfl⟩ (c_X7_riseOn hM (p := 284) (by decide) (gM_69 hpd hnh hnt ed i) (by omega)) ?_
      refine sm_V2 (q := 41) (M' := mX7_dayOn) dX7_daysGo_38 rfl ok_X7_dayOn mk_X7_dayOn ml_X7_197 ⟨Nat.le_of_ble_eq_true rfl, Nat.le_of_ble_eq_true rfl⟩ rfl (Nat.le_of_ble_eq_true rfl) (g_rv hM rfl) ⟨rfl, rfl⟩ (c_X7_dayOn hM (p := 284) (by decide) e2 hnt e1 hnh) ?_
      intro _ _ w h9 _
      obtain ⟨rfl, rfl, hM, hF_⟩ := h9
      replace hF := Fr.tr hF hF_
      refine st_aload_n (q := 42) dX7_daysGo_41 rfl rfl rfl ?_
      refine st_aload_n (q := 43) dX7_daysGo_42 rfl rfl rfl ?_
      refine g_getA (q := 46) dX7_daysGo_43 rfl fl_X7_7.g hM rfl ?_
      refine st_sipush (q := 49) dX7_daysGo_46 rfl sp_352 ?_
      refine m_sld (q := 50) dX7_daysGo_49 rfl hM (by exact ev_ix_nI (j := 352) (by decide) (by decide)) ?_
      refine st_aload_n (q := 51) dX7_daysGo_50 rfl rfl rfl ?_
      refine m_get (q := 54) dX7_daysGo_51 rfl fl_X7_203.g hM (by decide) rfl ?_
      refine st_icmp_le (q := 57) (tgt := 68) dX7_daysGo_54 rfl rfl (fun c_54 => ?_) (fun c_54 => ?_)
      · refine st_aload_n (q := 69) dX7_daysGo_68 rfl rfl rfl ?_
        refine m_get (q := 72) dX7_daysGo_69 rfl fl_X7_203.g hM (by decide) rfl ?_
        refine m_put (q := 75) dX7_daysGo_72 rfl fl_X7_203 hM (by decide) rfl rfl rfl (fun w hM hF_ => ?_)
        replace hF := Fr.tr hF hF_
        refine st_iinc (q := 78) (L' := [_, _, _, _]) dX7_daysGo_75 rfl rfl (nI_succ _).symm (Nat.le_of_ble_eq_true rfl) rfl ?_
        refine st_goto (q := 22) dX7_daysGo_78 rfl ?_
        rw [tup_tup] at hM
        first
          | (refine ih (i + 1) (by omega) w ?_ hF; rw [grM, if_pos (show gM f p dd nh nt (i + 1) 352 ≤ grM f p dd nh nt i from c_54)]; exact hM)
          | (refine ih (i + 1) (by omega) w ?_ hF; rw [grM, if_neg (show ¬ gM f p dd nh nt (i + 1) 352 ≤ grM f p dd nh nt i from c_54)]; exact hM)
      · refine st_aload_n (q := 58) dX7_daysGo_57 rfl rfl rfl ?_
        refine g_getA (q := 61) dX7_daysGo_58 rfl fl_X7_7.g hM rfl ?_
        refine st_sipush (q := 64) dX7_daysGo_61 rfl sp_352 ?_
        refine m_sld (q := 65) dX7_daysGo_64 rfl hM (by exact ev_ix_nI (j := 352) (by decide) (by decide)) ?_
        refine st_goto (q := 72) dX7_daysGo_65 rfl ?_
        refine m_put (q := 75) dX7_daysGo_72 rfl fl_X7_203 hM (by decide) rfl rfl rfl (fun w hM hF_ => ?_)
        replace hF := Fr.tr hF hF_
        refine st_iinc (q := 78) (L' := [_, _, _, _]) dX7_daysGo_75 rfl rfl (nI_succ _).symm (Nat.le_of_ble_eq_true rfl) rfl ?_
        refine st_goto (q := 22) dX7_daysGo_78 rfl ?_
        rw [tup_tup] at hM
        first
          | (refine ih (i + 1) (by omega) w ?_ hF; rw [grM, if_pos (show gM f p dd nh nt (i + 1) 352 ≤ grM f p dd nh nt i from c_54)]; exact hM)
          | (refine ih (i + 1) (by omega) w ?_ hF; rw [grM, if_neg (show ¬ gM f p dd nh nt (i + 1) 352 ≤ grM f p dd nh nt i from c_54)]; exact hM)
  refine st_aload_n (q := 1) dX7_daysGo_0 rfl rfl rfl ?_
  refine st_iload_n (q := 2) dX7_daysGo_1 rfl rfl rfl ?_
  refine st_sipush (q := 5) dX7_daysGo_2 rfl sp_284 ?_
  refine sm_V2 (q := 8) (M' := mX7_copies) dX7_daysGo_5 rfl ok_X7_copies mk_X7_copies ml_X7_200 ⟨Nat.le_of_ble_eq_true rfl, Nat.le_of_ble_eq_true rfl⟩ rfl (Nat.le_of_ble_eq_true rfl) (g_rv hM rfl) ⟨rfl, rfl⟩ (c_X7_copies hM (c := 284) hp (by decide)) ?_
  intro _ _ w h9 _
  obtain ⟨rfl, rfl, hM, hF_⟩ := h9
  replace hF := Fr.tr hF hF_
  refine st_aload_n (q := 9) dX7_daysGo_8 rfl rfl rfl ?_
  refine st_aload_n (q := 10) dX7_daysGo_9 rfl rfl rfl ?_
  refine g_getA (q := 13) dX7_daysGo_10 rfl fl_X7_7.g hM rfl ?_
  refine st_sipush (q := 16) dX7_daysGo_13 rfl sp_352 ?_
  refine m_sld (q := 17) dX7_daysGo_16 rfl hM (by exact ev_ix_nI (j := 352) (by decide) (by decide)) ?_
  refine m_put (q := 20) dX7_daysGo_17 rfl fl_X7_203 hM (by decide) rfl rfl rfl (fun w hM hF_ => ?_)
  replace hF := Fr.tr hF hF_
  refine st_iconst (q := 21) dX7_daysGo_20 rfl ic_0 ?_
  refine st_istore_n (q := 22) (L' := [_, _, _, _]) dX7_daysGo_21 rfl rfl (Nat.le_of_ble_eq_true rfl) rfl ?_
  exact lp m 0 (by omega) w hM hF
