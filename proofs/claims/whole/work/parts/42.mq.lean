def QA (S S' : gT) (f f' : Nat → Int32) : Prop := (∀ j, j < 213 → f' j = f j) ∧ ∀ g, g ≠ 20 → g ≠ 23 → S' g = S g
theorem QA.rf {S : gT} {f : Nat → Int32} : QA S S f f := ⟨fun _ _ => rfl, fun _ _ _ => rfl⟩
theorem QA.tr {S S' S'' : gT} {f f' f'' : Nat → Int32} (h : QA S S' f f') (h' : QA S' S'' f' f'') : QA S S'' f f'' := ⟨fun j hj => (h'.1 j hj).trans (h.1 j hj), fun g a b => (h'.2 g a b).trans (h.2 g a b)⟩
theorem QA.up {S : gT} {f : Nat → Int32} {j : Nat} {v : Int32} (h : 213 ≤ j) : QA S S f (upd f j v) := ⟨fun i hi => pk_un (by omega), fun _ _ _ => rfl⟩
def GQ (S : gT) (f : Nat → Int32) (T : gT) (nh nt dd : Nat) : Prop := RQ T f 0 nh nt dd ∧ S 1 0 = nI nh ∧ S 2 0 = nI nt ∧ dd ≤ 999
theorem GQ.qa {S S' : gT} {f f' : Nat → Int32} {T : gT} {nh nt dd : Nat} (h : GQ S f T nh nt dd) (a : QA S S' f f') : GQ S' f' T nh nt dd := by
  refine ⟨h.1.move (fun i hi => ?_), ?_, ?_, h.2.2.2⟩
  · rw [Nat.zero_add]; exact a.1 i (by omega)
  · rw [a.2 1 (by decide) (by decide)]; exact h.2.1
  · rw [a.2 2 (by decide) (by decide)]; exact h.2.2.1
def QR (S : gT) (f : Nat → Int32) (n : Nat) (u : ev_W) : Prop := ∃ S' f', MR S' f' 70 n u ∧ QA S S' f f'
theorem RQ.ed {T : gT} {f : Nat → Int32} {p nh nt dd : Nat} (h : RQ T f p nh nt dd) : f (p + 69) = nI dd := by rw [← h.1.da]; exact h.2.2.2
theorem hi_gr {T : gT} {f : Nat → Int32} {p nh nt dd : Nat} (h : RQ T f p nh nt dd) (hd : p + 71 ≤ 284 ∨ 355 ≤ p) : ∀ k, grM f p dd nh nt k = hiF T dd nh nt k
  | 0 => ((h.g hd 0).1.lv.1).symm
  | k + 1 => by
    have e : dysT T dd nh nt (k + 1) 15 0 = gM f p dd nh nt (k + 1) 352 := (h.g hd (k + 1)).1.lv.1
    rw [grM, hiF, hi_gr h hd k, ← e, mxI]
    by_cases z : hiF T dd nh nt k < dysT T dd nh nt (k + 1) 15 0
    · rw [if_pos z, if_neg (Int32.not_le.mpr z)]
    · rw [if_neg z, if_pos (Int32.not_lt.mp z)]
theorem c_goT {E : ev_E} {n : Nat} {w : ev_W} {S : gT} {f : Nat → Int32} (hM : MR S f 70 n w) {T : gT} {nh nt dd : Nat} (hG : GQ S f T nh nt dd) {p : Nat} (hp : p + 71 ≤ 426) (hpd : p + 71 ≤ 284 ∨ 355 ≤ p) {U : gT} (hR : RQ U f p nh nt dd) {m : Nat} (hm : m ≤ 60) : Ct E mX7_daysGo [.ref 70, .int (nI p), .int (nI m)] n w (fun a u v => ∃ S' f', a = some (.int (dysT U dd nh nt m 17 0 - T 17 0)) ∧ u = n ∧ MR S' f' 70 n v ∧ QA S S' f f' ∧ RQ (dysT U dd nh nt m) f' 284 nh nt (dd + m) ∧ S' 20 0 = hiF U dd nh nt m ∧ Fr 70 82 w v) := by
  have hd9 := hG.2.2.2
  refine (c_X7_daysGo hM hp hpd hG.2.2.1 hR.1.hnt hG.2.1 hR.1.hnh hR.ed (m := m) (by omega) (by omega)).mono (fun a u v h9 => ?_)
  obtain ⟨ha, hu, hMv, hFv⟩ := h9
  refine ⟨_, _, ?_, hu, hMv, ⟨fun j hj => gM_lo hpd hR.1.hnh hR.1.hnt (Or.inl (by omega)) m, fun g h1 _ => tup_n h1⟩, hR.g hpd m, ?_, hFv⟩
  · rw [ha, (hR.g hpd m).1.so.1, hG.1.1.so.1]
  · rw [tup_s, pk_us]; exact hi_gr hR hpd m
theorem c_copyT {E : ev_E} {n : Nat} {w : ev_W} {S : gT} {f : Nat → Int32} (hM : MR S f 70 n w) {T : gT} {nh nt dd : Nat} (hG : GQ S f T nh nt dd) {c : Nat} (hc : c + 71 ≤ 426) (hc' : 284 ≤ c) : Ct E mX7_copies [.ref 70, .int (nI 0), .int (nI c)] n w (fun a u v => ∃ f', a = none ∧ u = n ∧ MR S f' 70 n v ∧ QA S S f f' ∧ RQ T f' c nh nt dd ∧ Fr 70 82 w v) := by
  refine (c_X7_copies hM (p := 0) (c := c) (by decide) hc).mono (fun a u v h9 => ?_)
  obtain ⟨ha, hu, hMv, hFv⟩ := h9
  exact ⟨_, ha, hu, hMv, ⟨fun j hj => cpyM_out (by omega) (by omega), fun _ _ _ => rfl⟩, hG.1.cpy (by omega), hFv⟩
theorem c_dayT {E : ev_E} {n : Nat} {w : ev_W} {S : gT} {f : Nat → Int32} (hM : MR S f 70 n w) {T : gT} {nh nt dd : Nat} (hG : GQ S f T nh nt dd) {U : gT} {d : Nat} (hR : RQ U f 284 nh nt d) : Ct E mX7_dayOn [.ref 70, .int (nI 284), .int (riM f 284 d)] n w (fun a u v => ∃ f', a = none ∧ u = n ∧ MR S f' 70 n v ∧ QA S S f f' ∧ RQ (dyT U d nh nt) f' 284 nh nt (d + 1) ∧ Fr 70 82 w v) := by
  refine (c_X7_dayOn hM (p := 284) (by decide) hG.2.2.1 hR.1.hnt hG.2.1 hR.1.hnh).mono (fun a u v h9 => ?_)
  obtain ⟨ha, hu, hMv, hFv⟩ := h9
  exact ⟨_, ha, hu, hMv, ⟨fun j hj => dayM_n hR.1.hnh hR.1.hnt (by unfold inD; omega), fun _ _ _ => rfl⟩, hR.dy, hFv⟩
-- setters with the wind
section RQS
variable {T : gT} {f : Nat → Int32} {p nh nt dd : Nat}
theorem RQ.set1 (h : RQ T f p nh nt dd) {k : Nat} (hk : k < nh) {v : Int32} (hv : rg v 0 20) : RQ (tup T 1 k v) (upd f (p + k) v) p nh nt dd := by
  have := h.1.hnh
  exact ⟨h.1.set1 hk hv, by rw [tup_n (by decide), pk_un (by omega)]; exact h.2.1, by rw [tup_n (by decide)]; exact h.2.2.1, by rw [tup_n (by decide)]; exact h.2.2.2⟩
theorem RQ.set2 (h : RQ T f p nh nt dd) {k : Nat} (hk : k < nh) {v : Int32} (hv : rg v 0 40) : RQ (tup T 2 k v) (upd f (p + 4 + k) v) p nh nt dd := by
  have := h.1.hnh
  exact ⟨h.1.set2 hk hv, by rw [tup_n (by decide), pk_un (by omega)]; exact h.2.1, by rw [tup_n (by decide)]; exact h.2.2.1, by rw [tup_n (by decide)]; exact h.2.2.2⟩
theorem RQ.set3 (h : RQ T f p nh nt dd) {k : Nat} (hk : k < nh) {v : Int32} (hv : rg v 0 3) : RQ (tup T 3 k v) (upd f (p + 8 + k) v) p nh nt dd := by
  have := h.1.hnh
  exact ⟨h.1.set3 hk hv, by rw [tup_n (by decide), pk_un (by omega)]; exact h.2.1, by rw [tup_n (by decide)]; exact h.2.2.1, by rw [tup_n (by decide)]; exact h.2.2.2⟩
theorem RQ.set4 (h : RQ T f p nh nt dd) {k : Nat} (hk : k < nh) {v : Int32} (hv : rg v 0 99) : RQ (tup T 4 k v) (upd f (p + 12 + k) v) p nh nt dd := by
  have := h.1.hnh
  exact ⟨h.1.set4 hk hv, by rw [tup_n (by decide), pk_un (by omega)]; exact h.2.1, by rw [tup_n (by decide)]; exact h.2.2.1, by rw [tup_n (by decide)]; exact h.2.2.2⟩
theorem RP.iset {g o : Nat} (h : RP T f p nh nt) {k : Nat} (hk : k < nt) {v : Int32} (hg : (g = 7 ∧ o = 20 ∧ rg v 0 3) ∨ (g = 9 ∧ o = 36 ∧ rg v 1 9) ∨ (g = 10 ∧ o = 44 ∧ rg v 0 9) ∨ (g = 8 ∧ o = 28 ∧ ∃ j, j < nh ∧ v = nI j)) : RP (tup T g k v) (upd f (p + o + k) v) p nh nt := by
  have hnt := h.hnt
  refine h.ichg (fun i h1 h2 h3 h4 => tup_n (by rcases hg with z | z | z | z <;> omega)) (fun j hj => pk_un (by rcases hg with z | z | z | z <;> omega)) (fun i hi => ?_)
  have := h.is hi
  unfold RI at *
  rcases hg with ⟨rfl, rfl, hv⟩ | ⟨rfl, rfl, hv⟩ | ⟨rfl, rfl, hv⟩ | ⟨rfl, rfl, hv⟩
  · rw [tup_s, tup_n (by decide), tup_n (by decide), tup_n (by decide), pk_un (j := p + 28 + i) (by omega), pk_un (j := p + 36 + i) (by omega), pk_un (j := p + 44 + i) (by omega), pk_un (j := p + 52 + i) (by omega)]
    by_cases z : i = k
    · subst z; rw [pk_us, pk_us]; exact ⟨rfl, this.2.1, this.2.2.1, this.2.2.2.1, hv, this.2.2.2.2.2⟩
    · rw [pk_un z, pk_un (by omega)]; exact this
  · rw [tup_s, tup_n (by decide), tup_n (by decide), tup_n (by decide), pk_un (j := p + 20 + i) (by omega), pk_un (j := p + 28 + i) (by omega), pk_un (j := p + 44 + i) (by omega), pk_un (j := p + 52 + i) (by omega)]
    by_cases z : i = k
    · subst z; rw [pk_us, pk_us]; exact ⟨this.1, this.2.1, rfl, this.2.2.2.1, this.2.2.2.2.1, this.2.2.2.2.2.1, hv, this.2.2.2.2.2.2.2⟩
    · rw [pk_un z, pk_un (by omega)]; exact this
  · rw [tup_s, tup_n (by decide), tup_n (by decide), tup_n (by decide), pk_un (j := p + 20 + i) (by omega), pk_un (j := p + 28 + i) (by omega), pk_un (j := p + 36 + i) (by omega), pk_un (j := p + 52 + i) (by omega)]
    by_cases z : i = k
    · subst z; rw [pk_us, pk_us]; exact ⟨this.1, this.2.1, this.2.2.1, rfl, this.2.2.2.2.1, this.2.2.2.2.2.1, this.2.2.2.2.2.2.1, hv, this.2.2.2.2.2.2.2.2⟩
    · rw [pk_un z, pk_un (by omega)]; exact this
  · rw [tup_s, tup_n (by decide), tup_n (by decide), tup_n (by decide), pk_un (j := p + 20 + i) (by omega), pk_un (j := p + 36 + i) (by omega), pk_un (j := p + 44 + i) (by omega), pk_un (j := p + 52 + i) (by omega)]
    by_cases z : i = k
    · subst z; rw [pk_us, pk_us]; exact ⟨this.1, rfl, this.2.2.1, this.2.2.2.1, this.2.2.2.2.1, hv, this.2.2.2.2.2.2⟩
    · rw [pk_un z, pk_un (by omega)]; exact this
theorem RQ.iset {g o : Nat} (h : RQ T f p nh nt dd) {k : Nat} (hk : k < nt) {v : Int32} (hg : (g = 7 ∧ o = 20 ∧ rg v 0 3) ∨ (g = 9 ∧ o = 36 ∧ rg v 1 9) ∨ (g = 10 ∧ o = 44 ∧ rg v 0 9) ∨ (g = 8 ∧ o = 28 ∧ ∃ j, j < nh ∧ v = nI j)) : RQ (tup T g k v) (upd f (p + o + k) v) p nh nt dd := by
  have := h.1.hnt
  have hg' : g ≠ 14 ∧ g ≠ 16 ∧ o ≤ 44 := by rcases hg with z | z | z | z <;> omega
  exact ⟨h.1.iset hk hg, by rw [tup_n (Ne.symm hg'.1), pk_un (by omega)]; exact h.2.1, by rw [tup_n (Ne.symm hg'.1)]; exact h.2.2.1, by rw [tup_n (Ne.symm hg'.2.1)]; exact h.2.2.2⟩
theorem RQ.set7 (h : RQ T f p nh nt dd) {k : Nat} (hk : k < nt) {v : Int32} (hv : rg v 0 3) : RQ (tup T 7 k v) (upd f (p + 20 + k) v) p nh nt dd := h.iset hk (Or.inl ⟨rfl, rfl, hv⟩)
theorem RQ.set9 (h : RQ T f p nh nt dd) {k : Nat} (hk : k < nt) {v : Int32} (hv : rg v 1 9) : RQ (tup T 9 k v) (upd f (p + 36 + k) v) p nh nt dd := h.iset hk (Or.inr (Or.inl ⟨rfl, rfl, hv⟩))
theorem RQ.set10 (h : RQ T f p nh nt dd) {k : Nat} (hk : k < nt) {v : Int32} (hv : rg v 0 9) : RQ (tup T 10 k v) (upd f (p + 44 + k) v) p nh nt dd := h.iset hk (Or.inr (Or.inr (Or.inl ⟨rfl, rfl, hv⟩)))
theorem RQ.set8 (h : RQ T f p nh nt dd) {k : Nat} (hk : k < nt) {v : Int32} (hv : ∃ j, j < nh ∧ v = nI j) : RQ (tup T 8 k v) (upd f (p + 28 + k) v) p nh nt dd := h.iset hk (Or.inr (Or.inr (Or.inr ⟨rfl, rfl, hv⟩)))
/-- what a thing is (not gone): in, or not -/
theorem RQ.set11 (h : RQ T f p nh nt dd) {k : Nat} (hk : k < nt) {v x : Int32} (hx : x = 0 ∨ x = 1) (h2 : f (p + 52 + k) = 0 ∨ f (p + 52 + k) = 1) (hv : ∀ j, j < 32 → bt v j = if j = k then decide (x = 1) else bt (T 11 0) j) : RQ (tup T 11 0 v) (upd f (p + 52 + k) x) p nh nt dd := by
  have hnt := h.1.hnt
  refine ⟨h.1.is_chg (fun g h1 _ _ => tup_n h1) (fun j h1 _ => pk_un (by omega)) (fun i hi => ?_) (fun j hj => ?_) (fun j hj => ?_) ?_, ?_, ?_, ?_⟩
  · by_cases z : i = k
    · subst z; rw [pk_us]; rcases hx with z | z <;> simp [z]
    · rw [pk_un (by omega)]; exact (h.1.is hi).2.2.2.2.2.2.2.2
  · rw [tup_s, pk_us, hv j hj]
    by_cases z : j = k
    · subst z; rw [if_pos rfl]; dsimp only; rw [pk_us]; simp [hk]
    · rw [if_neg z, h.1.b11 j hj]
      dsimp only
      rw [pk_un (by omega)]
  · rw [tup_n (by decide), h.1.b12 j hj]
    dsimp only
    by_cases z : j = k
    · subst z
      rw [pk_us]
      rcases hx with e | e <;> rcases h2 with e' | e' <;> rw [e, e'] <;> rfl
    · rw [pk_un (by omega)]
  · rw [tup_n (by decide), pk_un (by omega)]; exact h.1.so
  · rw [tup_n (by decide), pk_un (by omega)]; exact h.2.1
  · rw [tup_n (by decide)]; exact h.2.2.1
  · rw [tup_n (by decide)]; exact h.2.2.2
end RQS
-- gone stays gone
theorem mono_or {x y : Int32} {k : Nat} (h : bt x k = true) : bt (x ||| y) k = true := by rw [b_or, h]; rfl
theorem lose_gone {T : gT} {s k : Nat} (h : bt (T 12 0) k = true) : bt (loseT T s 12 0) k = true := by rw [loseT_12]; exact mono_or h
theorem lo_gone {T : gT} {h : Int32} {k : Nat} (h0 : bt (T 12 0) k = true) : ∀ i, bt (loT T h i 12 0) k = true
  | 0 => h0
  | i + 1 => by
    rw [loT]
    split
    · split
      · exact lose_gone (lo_gone h0 i)
      · exact lo_gone h0 i
    · exact lo_gone h0 i
theorem lw_gone {h : Int32} {hj k : Nat} : ∀ (m : Nat) (T : gT) (f : Int32), bt (T 12 0) k = true → bt (lwT h hj m T f 12 0) k = true
  | 0, _, _, h0 => h0
  | m + 1, T, f, h0 => by
    rw [lwT]
    split
    · exact h0
    · split
      · split
        · exact lw_gone m _ _ (lose_gone h0)
        · exact lw_gone m _ _ h0
      · exact lw_gone m _ _ h0
theorem ph1_gone {T : gT} {h : Int32} {hj nt k : Nat} {wd : Int32} (h0 : bt (T 12 0) k = true) : bt (ph1 T h hj nt wd 12 0) k = true := by
  unfold ph1
  rw [tup_n (by decide)]
  exact lw_gone _ _ _ (by rw [tup_n (by decide)]; exact h0)
theorem phT_gone {T : gT} {h : Int32} {hj nt k : Nat} {wd : Int32} (h0 : bt (T 12 0) k = true) : bt (phT T h hj nt wd 12 0) k = true := by
  unfold phT
  split
  · split
    · exact ph1_gone h0
    · exact ph1_gone (by rw [tup_n (by decide)]; exact lo_gone h0 _)
  · rw [tup_n (by decide)]; exact h0
theorem phs_gone {T : gT} {nt k : Nat} {wd : Int32} (h0 : bt (T 12 0) k = true) : ∀ h, bt (phs nt wd T h 12 0) k = true
  | 0 => h0
  | h + 1 => phT_gone (phs_gone h0 h)
theorem pdT_gone {T : gT} {nh nt k : Nat} {ri wd : Int32} (h0 : bt (T 12 0) k = true) : bt (pdT T ri wd nh nt 12 0) k = true := by
  unfold pdT
  rw [tup_n (by decide)]
  exact phs_gone (by rw [tup_n (by decide)]; exact h0) nh
theorem dys_gone {T : gT} {dd nh nt k i : Nat} (h0 : bt (dysT T dd nh nt i 12 0) k = true) : ∀ j, bt (dysT T dd nh nt (i + j) 12 0) k = true
  | 0 => h0
  | j + 1 => pdT_gone (dys_gone h0 j)
theorem and0 {x y : Int32} : x &&& y = 0 ↔ ∀ i, i < 32 → bt x i = true → bt y i = true → False := by
  constructor
  · intro h i hi h1 h2
    have e : bt (x &&& y) i = bt 0 i := by rw [h]
    rw [b_and, b_0, h1, h2] at e
    exact absurd e (by decide)
  · intro h
    refine b_ext (fun i hi => ?_)
    rw [b_and, b_0]
    cases h1 : bt x i with
    | false => rfl
    | true =>
      cases h2 : bt y i with
      | false => rfl
      | true => exact (h i hi h1 h2).elim
theorem ln_eq {T : gT} {tk : Int32} {dd nh nt m : Nat} (h0 : T 12 0 &&& tk = 0) : lnF T tk dd nh nt m = decide (dysT T dd nh nt m 12 0 &&& tk = 0) := by
  by_cases h : dysT T dd nh nt m 12 0 &&& tk = 0
  · rw [decide_eq_true h]
    refine List.all_eq_true.mpr (fun d hd => decide_eq_true (and0.mpr (fun i hi h1 h2 => and0.mp h i hi ?_ h2)))
    have hd := List.mem_range.mp hd
    have := dys_gone h1 (m - (d + 1))
    rwa [show d + 1 + (m - (d + 1)) = m from by omega] at this
  · rw [decide_eq_false h]
    match m, h with
    | 0, h => exact absurd h0 h
    | m + 1, h => exact List.all_eq_false.mpr ⟨m, List.mem_range.mpr (by omega), by rw [decide_eq_true_eq]; exact h⟩
theorem tk_0 {T : gT} {x : Int32} {nt : Nat} : T 12 0 &&& tkI T x nt = 0 := by
  refine and0.mpr (fun i hi h1 h2 => ?_)
  rw [tkI, b_and, bt_not _ hi, h1] at h2
  simp at h2
theorem sub_le {a b c : Int32} (ha : rg a 0 999) (hb : rg b 0 999) (hc : rg c 0 999) : a - c ≤ b - c ↔ a ≤ b := by
  unfold rg at *
  rw [Int32.le_iff_toInt_le, Int32.le_iff_toInt_le, ti_sub (by omega) (by omega), ti_sub (by omega) (by omega)]
  omega
theorem RP.whp {T : gT} {f : Nat → Int32} {p nh nt : Nat} (h : RP T f p nh nt) {j : Nat} (hj : j < nt) : whI T (nI j) = f (p + 52 + j) := by
  have h9 := (h.is hj).2.2.2.2.2.2.2.2
  unfold whI
  rw [h.gone hj, h.in_ hj]
  rcases h9 with z | z | z <;> rw [z] <;> rfl
def CR (S : gT) (f : Nat → Int32) (T : gT) (nh nt : Nat) (n : Nat) (u : ev_W) : Prop := ∃ f' dd', MR S f' 70 n u ∧ RQ T f' 0 nh nt dd' ∧ dd' ≤ 999 ∧ ∀ j, 71 ≤ j → f' j = f j
theorem RQ.build {T : gT} {f : Nat → Int32} {nh nt dd m j : Nat} {z : Int32} (h : RQ T f 0 nh nt dd) (hm : m < 4) (hj : j < nh) (hz : inI z 0 (moH (nI m)) = true) : RQ (tup T (hrI (nI m)) j z) (upd f (4 * m + j) z) 0 nh nt dd := by
  match m, hm, hz with
  | 0, _, hz => obtain ⟨v, hv, rfl⟩ := inI_k (k := 20) hz (by decide); exact h.set1 hj (rg_of (m := 20) hv (by decide))
  | 1, _, hz => obtain ⟨v, hv, rfl⟩ := inI_k (k := 40) hz (by decide); exact h.set2 hj (rg_of (m := 40) hv (by decide))
  | 2, _, hz => obtain ⟨v, hv, rfl⟩ := inI_k (k := 3) hz (by decide); exact h.set3 hj (rg_of (m := 3) hv (by decide))
  | 3, _, hz => obtain ⟨v, hv, rfl⟩ := inI_k (k := 99) hz (by decide); exact h.set4 hj (rg_of (m := 99) hv (by decide))
theorem alter_bad {T : gT} {nt : Nat} {x y z : Int32} (h : inI x 0 (nI nt - 1) = false ∨ (y = 0 ∧ inI z 0 3 = false) ∨ (y = 1 ∧ inI z 1 9 = false) ∨ (y = 2 ∧ inI z 0 9 = false) ∨ (¬ y = 0 ∧ ¬ y = 1 ∧ ¬ y = 2)) : alterS T nt x y z = (-1, T) := by
  unfold alterS
  by_cases hx : inI x 0 (nI nt - 1) = true
  · rw [if_pos hx]
    rcases h with h | ⟨rfl, h⟩ | ⟨rfl, h⟩ | ⟨rfl, h⟩ | ⟨h0, h1, h2⟩
    · rw [h] at hx; cases hx
    · rw [if_pos (by decide), if_neg (by rw [show inI z (leT 0) (moT 0) = inI z 0 3 from rfl, h]; decide)]
    · rw [if_pos (by decide), if_neg (by rw [show inI z (leT 1) (moT 1) = inI z 1 9 from rfl, h]; decide)]
    · rw [if_pos (by decide), if_neg (by rw [show inI z (leT 2) (moT 2) = inI z 0 9 from rfl, h]; decide)]
    · rw [if_neg]
      intro hy
      obtain ⟨m, hm, rfl⟩ := inI_k (k := 2) hy (by decide)
      match m, hm, h0, h1, h2 with
      | 0, _, h0, _, _ => exact h0 rfl
      | 1, _, _, h1, _ => exact h1 rfl
      | 2, _, _, _, h2 => exact h2 rfl
  · rw [if_neg hx]
theorem rg_in {z : Int32} {a b : Nat} (h : inI z (nI a) (nI b) = true) (ha : a < 2 ^ 31) (hb : b < 2 ^ 31) : rg z a b := by
  simp only [inI, Bool.and_eq_true, decide_eq_true_eq] at h
  have h1 := Int32.le_iff_toInt_le.mp h.1
  have h2 := Int32.le_iff_toInt_le.mp h.2
  rw [nI_toInt ha] at h1
  rw [nI_toInt hb] at h2
  exact ⟨h1, h2⟩

