def spF (q : Int32 → Bool) (b : Nat → Int32) : Nat → Nat → Nat
  | 0, p => p
  | k + 1, p => if q (b p) = true then spF q b k (p + 1) else p
theorem spF_ge {q : Int32 → Bool} {b : Nat → Int32} : ∀ (k p : Nat), p ≤ spF q b k p
  | 0, p => Nat.le_refl _
  | k + 1, p => by
    rw [spF]
    split
    · have := spF_ge (q := q) (b := b) k (p + 1); omega
    · exact Nat.le_refl _
theorem spF_le {q : Int32 → Bool} {b : Nat → Int32} : ∀ (k p : Nat), spF q b k p ≤ p + k
  | 0, p => Nat.le_refl _
  | k + 1, p => by
    rw [spF]
    split
    · have := spF_le (q := q) (b := b) k (p + 1); omega
    · omega
def isS (x : Int32) : Bool := decide (x = 32)
def isL (x : Int32) : Bool := inI x 97 122
def isF (x : Int32) : Bool := inI x 48 57
def vlF (b : Nat → Int32) (f : Nat) : Nat → Int32
  | 0 => 0
  | k + 1 => vlF b f k * 10 + b (f + k) - 48
def tokF (b : Nat → Int32) (tl p : Nat) : (Nat × Nat) ⊕ (Nat × Nat × Nat × Int32) :=
  if spF isS b (tl - p) p < tl then
    (if isL (b (spF isS b (tl - p) p)) = true then .inr (1, spF isS b (tl - p) p, spF isL b (tl - spF isS b (tl - p) p) (spF isS b (tl - p) p), 0)
     else if isF (b (spF isS b (tl - p) p)) = true then
       (if spF isF b (tl - spF isS b (tl - p) p) (spF isS b (tl - p) p) ≤ spF isS b (tl - p) p + 2 then .inr (2, spF isS b (tl - p) p, spF isF b (tl - spF isS b (tl - p) p) (spF isS b (tl - p) p), vlF b (spF isS b (tl - p) p) (spF isF b (tl - spF isS b (tl - p) p) (spF isS b (tl - p) p) - spF isS b (tl - p) p))
        else .inl (1, spF isS b (tl - p) p))
     else if b (spF isS b (tl - p) p) = 59 then .inr (3, spF isS b (tl - p) p, spF isS b (tl - p) p + 1, 0) else .inl (1, spF isS b (tl - p) p))
  else .inr (0, spF isS b (tl - p) p, spF isS b (tl - p) p, 0)
def TQ (R : gT) (t : (Nat × Nat) ⊕ (Nat × Nat × Nat × Int32)) (n : Nat) (w : ev_W) : Option Value → Nat → ev_W → Prop := fun a m u => m = n ∧ FrQ w u ∧ match t with
  | .inl e => a = some (.int 0) ∧ ∃ R', RR R' n u ∧ R' 10 0 = nI e.1 ∧ R' 11 0 = nI e.2
  | .inr q => a = some (.int 1) ∧ ∃ R', RR R' n u ∧ R' 3 0 = nI q.2.2.1 ∧ R' 4 0 = nI q.1 ∧ R' 5 0 = nI q.2.1 ∧ (q.1 = 2 → R' 6 0 = q.2.2.2) ∧ ∀ g, g ≠ 3 → g ≠ 4 → g ≠ 5 → g ≠ 6 → R' g = R g
theorem tup_id {T : gT} {i j : Nat} {v : Int32} (h : T i j = v) : tup T i j v = T := by
  funext g
  unfold tup
  by_cases e : g = i
  · subst e
    rw [if_pos rfl]
    funext k
    by_cases z : k = j
    · subst z; rw [pk_us, h]
    · rw [pk_un z]
  · rw [if_neg e]
set_option maxRecDepth 100000 in
set_option maxHeartbeats 4000000 in
theorem c_X1_isLetter {E : ev_E} {n : Nat} {w : ev_W} {x : Int32} : Ct E mX1_isLetter [.int x] n w (ev_is (some (.int (zI (isL x)))) n w) := by
  refine Ct.of 0 (by decide) (Nat.le_of_ble_eq_true rfl) rfl ?_
  refine st_iload_n (q := 1) dX1_isLetter_0 rfl rfl rfl ?_
  refine st_bipush (q := 3) dX1_isLetter_1 rfl bp_97 ?_
  refine st_bipush (q := 5) dX1_isLetter_3 rfl bp_122 ?_
  refine sp_SN3 (q := 8) (M' := mX6_within) dX1_isLetter_5 rfl ok_X6_within mk_X6_within ml_X1_109 ⟨Nat.le_of_ble_eq_true rfl, Nat.le_of_ble_eq_true rfl⟩ rfl (Nat.le_of_ble_eq_true rfl) ⟨rfl, rfl⟩ (c_X6_within) ?_
  refine st_nreturn dX1_isLetter_8 rfl (by exact zI_nar _) ?_
  exact ⟨rfl, rfl, rfl⟩
set_option maxRecDepth 100000 in
set_option maxHeartbeats 4000000 in
theorem c_X1_isFigure {E : ev_E} {n : Nat} {w : ev_W} {x : Int32} : Ct E mX1_isFigure [.int x] n w (ev_is (some (.int (zI (isF x)))) n w) := by
  refine Ct.of 0 (by decide) (Nat.le_of_ble_eq_true rfl) rfl ?_
  refine st_iload_n (q := 1) dX1_isFigure_0 rfl rfl rfl ?_
  refine st_bipush (q := 3) dX1_isFigure_1 rfl bp_48 ?_
  refine st_bipush (q := 5) dX1_isFigure_3 rfl bp_57 ?_
  refine sp_SN3 (q := 8) (M' := mX6_within) dX1_isFigure_5 rfl ok_X6_within mk_X6_within ml_X1_109 ⟨Nat.le_of_ble_eq_true rfl, Nat.le_of_ble_eq_true rfl⟩ rfl (Nat.le_of_ble_eq_true rfl) ⟨rfl, rfl⟩ (c_X6_within) ?_
  refine st_nreturn dX1_isFigure_8 rfl (by exact zI_nar _) ?_
  exact ⟨rfl, rfl, rfl⟩
set_option maxRecDepth 100000 in
set_option maxHeartbeats 4000000 in
theorem c_X1_refuse {E : ev_E} {n : Nat} {w : ev_W} {R : gT} (hR : RR R n w) {x y : Int32} : Ct E mX1_refuse [.ref 42, .int x, .int y] n w (ev_cq (some (.int 0)) n w (RR (tup (tup R 10 0 x) 11 0 y) n)) := by
  refine Ct.of 0 (by decide) (Nat.le_of_ble_eq_true rfl) rfl ?_
  have hF : FrQ w w := FrQ.rf
  refine st_aload_n (q := 1) dX1_refuse_0 rfl rfl rfl ?_
  refine st_iload_n (q := 2) dX1_refuse_1 rfl rfl rfl ?_
  refine r_put (q := 5) dX1_refuse_2 rfl fl_X1_46 hR rfl rfl rfl (fun w hR hF_ => ?_)
  replace hF := FrQ.tr hF hF_
  refine st_aload_n (q := 6) dX1_refuse_5 rfl rfl rfl ?_
  refine st_iload_n (q := 7) dX1_refuse_6 rfl rfl rfl ?_
  refine r_put (q := 10) dX1_refuse_7 rfl fl_X1_49 hR rfl rfl rfl (fun w hR hF_ => ?_)
  replace hF := FrQ.tr hF hF_
  refine st_iconst (q := 11) dX1_refuse_10 rfl ic_0 ?_
  refine st_nreturn dX1_refuse_11 rfl (by rfl) ?_
  exact ⟨rfl, rfl, hR, hF⟩
set_option maxRecDepth 100000 in
set_option maxHeartbeats 4000000 in
theorem c_X1_passLetters {E : ev_E} {n : Nat} {w : ev_W} {R Tp : gT} (hR : RR R n w) (hTp : PR Tp 43 n w) {tl : Nat} (e1 : Tp 1 0 = nI tl) (ht : tl ≤ 160) {p : Nat} (hp : p ≤ tl) (e3 : R 3 0 = nI p) : Ct E mX1_passLetters [.ref 42] n w (ev_cq none n w (RR (tup R 3 0 (nI (spF isL (Tp 0) (tl - p) p))) n)) := by
  refine Ct.of 0 (by decide) (Nat.le_of_ble_eq_true rfl) rfl ?_
  generalize he : spF isL (Tp 0) (tl - p) p = e
  have hF : FrQ w w := FrQ.rf
  have lp : ∀ (k p : Nat), p + k = tl → spF isL (Tp 0) k p = e → ∀ (w1 : ev_W), RR (tup R 3 0 (nI p)) n w1 → PR Tp 43 n w1 → FrQ w w1 → Ev E mX1_passLetters 0 [some (.ref 42)] [] n w1 (0, 0) (ev_cq none n w (RR (tup R 3 0 (nI e)) n)) := by
    clear he hR hTp hF e3 hp
    intro k
    induction k with
    | zero =>
      intro p hp he w hR hTp hF
      refine st_aload_n (q := 1) dX1_passLetters_0 rfl rfl rfl ?_
      refine g_get (q := 4) dX1_passLetters_1 rfl fl_X1_32.g hR rfl ?_
      refine st_aload_n (q := 5) dX1_passLetters_4 rfl rfl rfl ?_
      refine g_getO (q := 8) dX1_passLetters_5 rfl fl_X1_12.g hR rfl ?_
      refine g_get (q := 11) dX1_passLetters_8 rfl fl_X1_52.g hTp rfl ?_
      refine st_icmp_ge (q := 14) (tgt := 45) dX1_passLetters_11 rfl rfl (fun c_11 => ?_) (fun c_11 => False.elim (c_11 (by rw [e1]; exact nI_le (a := tl) (b := p) (by omega) (by omega))))
      refine st_return dX1_passLetters_45 rfl ?_
      exact ⟨rfl, rfl, by rw [← he]; exact hR, hF⟩
    | succ k ih =>
      intro p hp he w hR hTp hF
      refine st_aload_n (q := 1) dX1_passLetters_0 rfl rfl rfl ?_
      refine g_get (q := 4) dX1_passLetters_1 rfl fl_X1_32.g hR rfl ?_
      refine st_aload_n (q := 5) dX1_passLetters_4 rfl rfl rfl ?_
      refine g_getO (q := 8) dX1_passLetters_5 rfl fl_X1_12.g hR rfl ?_
      refine g_get (q := 11) dX1_passLetters_8 rfl fl_X1_52.g hTp rfl ?_
      refine st_icmp_ge (q := 14) (tgt := 45) dX1_passLetters_11 rfl rfl (fun c_11 => False.elim (absurd (by rw [← e1]; exact c_11) (nI_ge (a := p) (b := tl) (by omega) (by omega)))) (fun c_11 => ?_)
      refine st_aload_n (q := 15) dX1_passLetters_14 rfl rfl rfl ?_
      refine g_getO (q := 18) dX1_passLetters_15 rfl fl_X1_12.g hR rfl ?_
      refine g_getA (q := 21) dX1_passLetters_18 rfl fl_X1_145 hTp rfl ?_
      refine st_aload_n (q := 22) dX1_passLetters_21 rfl rfl rfl ?_
      refine g_get (q := 25) dX1_passLetters_22 rfl fl_X1_32.g hR rfl ?_
      refine g_bald (q := 26) dX1_passLetters_25 rfl gkX4 hTp (i := 0) rfl (by show ev_ix (nI p) 160 p; exact ev_ix_nI (by omega) (by decide)) ?_
      refine sp_S1 (q := 29) (M' := mX1_isLetter) dX1_passLetters_26 rfl ok_X1_isLetter mk_X1_isLetter ml_X1_149 ⟨Nat.le_of_ble_eq_true rfl, Nat.le_of_ble_eq_true rfl⟩ rfl (Nat.le_of_ble_eq_true rfl) ⟨rfl, rfl⟩ (c_X1_isLetter) ?_
      refine st_if_eq (q := 32) (tgt := 45) dX1_passLetters_29 rfl rfl (fun c_29 => ?_) (fun c_29 => ?_)
      · refine st_return dX1_passLetters_45 rfl ?_
        exact ⟨rfl, rfl, by rw [← he, spF, if_neg (by rw [zI_0.mp c_29]; decide)]; exact hR, hF⟩
      · refine st_aload_n (q := 33) dX1_passLetters_32 rfl rfl rfl ?_
        refine st_dup (q := 34) dX1_passLetters_33 rfl rfl ?_
        refine g_get (q := 37) dX1_passLetters_34 rfl fl_X1_32.g hR rfl ?_
        refine st_iconst (q := 38) dX1_passLetters_37 rfl ic_1 ?_
        refine st_iadd (q := 39) dX1_passLetters_38 rfl ?_
        refine r_put (q := 42) dX1_passLetters_39 rfl fl_X1_32 hR rfl rfl rfl (fun w hR hF_ => ?_)
        replace hTp := GR.fr gkX4 hTp (fun k h1 h2 => hF_ k (by omega) (by omega))
        replace hF := FrQ.tr hF hF_
        refine st_goto (q := 0) dX1_passLetters_42 rfl ?_
        replace hR : RR (tup R 3 0 (nI (p + 1))) n w := by rw [nI_succ, ← tup_tup]; exact hR
        exact ih (p + 1) (by omega) (by rw [← he, spF, if_pos (zI_1.mp c_29)]) w hR hTp hF
  exact lp (tl - p) p (by omega) he w (by rw [tup_id e3]; exact hR) hTp hF
theorem tup_swap {T : gT} {i j k l : Nat} {u v : Int32} (h : i ≠ k) : tup (tup T i j u) k l v = tup (tup T k l v) i j u := by
  funext g
  by_cases e : g = i
  · subst e
    rw [tup_n h, tup_s, tup_s, tup_n h]
  · by_cases e' : g = k
    · subst e'
      rw [tup_s, tup_n e, tup_n e, tup_s]
    · rw [tup_n e', tup_n e, tup_n e, tup_n e']
set_option maxRecDepth 100000 in
set_option maxHeartbeats 4000000 in
theorem c_X1_takeFigures {E : ev_E} {n : Nat} {w : ev_W} {R Tp : gT} (hR : RR R n w) (hTp : PR Tp 43 n w) {tl : Nat} (e1 : Tp 1 0 = nI tl) (ht : tl ≤ 160) {f e : Nat} (hf : f ≤ tl) (e3 : R 3 0 = nI f) (e5 : R 5 0 = nI f) (he : spF isF (Tp 0) (tl - f) f = e) : Ct E mX1_takeFigures [.ref 42] n w (fun a m u => m = n ∧ FrQ w u ∧ ((e ≤ f + 2 ∧ a = some (.int 1) ∧ RR (tup (tup R 6 0 (vlF (Tp 0) f (e - f))) 3 0 (nI e)) n u) ∨ (f + 2 < e ∧ a = some (.int 0) ∧ ∃ R', RR R' n u ∧ R' 10 0 = 1 ∧ R' 11 0 = nI f))) := by
  refine Ct.of 0 (by decide) (Nat.le_of_ble_eq_true rfl) rfl ?_
  have hF : FrQ w w := FrQ.rf
  have lp : ∀ (k p : Nat), p + k = tl → f ≤ p → p ≤ f + 2 → spF isF (Tp 0) k p = e → ∀ (w1 : ev_W), RR (tup (tup R 6 0 (vlF (Tp 0) f (p - f))) 3 0 (nI p)) n w1 → PR Tp 43 n w1 → FrQ w w1 → Ev E mX1_takeFigures 5 [some (.ref 42)] [] n w1 (0, 0) (fun a m u => m = n ∧ FrQ w u ∧ ((e ≤ f + 2 ∧ a = some (.int 1) ∧ RR (tup (tup R 6 0 (vlF (Tp 0) f (e - f))) 3 0 (nI e)) n u) ∨ (f + 2 < e ∧ a = some (.int 0) ∧ ∃ R', RR R' n u ∧ R' 10 0 = 1 ∧ R' 11 0 = nI f))) := by
    clear he hR hTp hF e3
    intro k
    induction k with
    | zero =>
      intro p hp h1 h2 he w hR hTp hF
      obtain rfl : p = e := he
      refine st_aload_n (q := 6) dX1_takeFigures_5 rfl rfl rfl ?_
      refine g_get (q := 9) dX1_takeFigures_6 rfl fl_X1_32.g hR rfl ?_
      refine st_aload_n (q := 10) dX1_takeFigures_9 rfl rfl rfl ?_
      refine g_getO (q := 13) dX1_takeFigures_10 rfl fl_X1_12.g hR rfl ?_
      refine g_get (q := 16) dX1_takeFigures_13 rfl fl_X1_52.g hTp rfl ?_
      refine st_icmp_ge (q := 19) (tgt := 100) dX1_takeFigures_16 rfl rfl (fun c_16 => ?_) (fun c_16 => False.elim (c_16 (by rw [e1]; exact nI_le (a := tl) (b := p) (by omega) (by omega))))
      refine st_iconst (q := 101) dX1_takeFigures_100 rfl ic_1 ?_
      refine st_nreturn dX1_takeFigures_101 rfl (by rfl) ?_
      exact ⟨rfl, hF, Or.inl ⟨h2, rfl, hR⟩⟩
    | succ k ih =>
      intro p hp h1 h2 he w hR hTp hF
      refine st_aload_n (q := 6) dX1_takeFigures_5 rfl rfl rfl ?_
      refine g_get (q := 9) dX1_takeFigures_6 rfl fl_X1_32.g hR rfl ?_
      refine st_aload_n (q := 10) dX1_takeFigures_9 rfl rfl rfl ?_
      refine g_getO (q := 13) dX1_takeFigures_10 rfl fl_X1_12.g hR rfl ?_
      refine g_get (q := 16) dX1_takeFigures_13 rfl fl_X1_52.g hTp rfl ?_
      refine st_icmp_ge (q := 19) (tgt := 100) dX1_takeFigures_16 rfl rfl (fun c_16 => False.elim (absurd (by rw [← e1]; exact c_16) (nI_ge (a := p) (b := tl) (by omega) (by omega)))) (fun c_16 => ?_)
      refine st_aload_n (q := 20) dX1_takeFigures_19 rfl rfl rfl ?_
      refine g_getO (q := 23) dX1_takeFigures_20 rfl fl_X1_12.g hR rfl ?_
      refine g_getA (q := 26) dX1_takeFigures_23 rfl fl_X1_145 hTp rfl ?_
      refine st_aload_n (q := 27) dX1_takeFigures_26 rfl rfl rfl ?_
      refine g_get (q := 30) dX1_takeFigures_27 rfl fl_X1_32.g hR rfl ?_
      refine g_bald (q := 31) dX1_takeFigures_30 rfl gkX4 hTp (i := 0) rfl (by show ev_ix (nI p) 160 p; exact ev_ix_nI (by omega) (by decide)) ?_
      refine sp_S1 (q := 34) (M' := mX1_isFigure) dX1_takeFigures_31 rfl ok_X1_isFigure mk_X1_isFigure ml_X1_155 ⟨Nat.le_of_ble_eq_true rfl, Nat.le_of_ble_eq_true rfl⟩ rfl (Nat.le_of_ble_eq_true rfl) ⟨rfl, rfl⟩ (c_X1_isFigure) ?_
      refine st_if_eq (q := 37) (tgt := 100) dX1_takeFigures_34 rfl rfl (fun c_34 => ?_) (fun c_34 => ?_)
      · refine st_iconst (q := 101) dX1_takeFigures_100 rfl ic_1 ?_
        refine st_nreturn dX1_takeFigures_101 rfl (by rfl) ?_
        obtain rfl : p = e := by rw [← he, spF, if_neg (by rw [zI_0.mp c_34]; decide)]
        exact ⟨rfl, hF, Or.inl ⟨h2, rfl, hR⟩⟩
      · refine st_aload_n (q := 38) dX1_takeFigures_37 rfl rfl rfl ?_
        refine g_get (q := 41) dX1_takeFigures_38 rfl fl_X1_32.g hR rfl ?_
        refine st_aload_n (q := 42) dX1_takeFigures_41 rfl rfl rfl ?_
        refine g_get (q := 45) dX1_takeFigures_42 rfl fl_X1_76.g hR rfl ?_
        refine st_isub (q := 46) dX1_takeFigures_45 rfl ?_
        refine st_iconst (q := 47) dX1_takeFigures_46 rfl ic_2 ?_
        refine st_icmp_lt (q := 50) (tgt := 60) dX1_takeFigures_47 rfl rfl (fun c_47 => ?_) (fun c_47 => ?_)
        · have h3 : p < f + 2 := by
            rcases Nat.lt_or_ge p (f + 2) with z | z
            · exact z
            · refine absurd ?_ (nI_nlt (a := p - f) (b := 2) (by omega) (by omega))
              rw [← nI_sb h1, ← e5]; exact c_47
          refine st_aload_n (q := 61) dX1_takeFigures_60 rfl rfl rfl ?_
          refine st_aload_n (q := 62) dX1_takeFigures_61 rfl rfl rfl ?_
          refine g_get (q := 65) dX1_takeFigures_62 rfl fl_X1_106.g hR rfl ?_
          refine st_bipush (q := 67) dX1_takeFigures_65 rfl bp_10 ?_
          refine st_imul (q := 68) dX1_takeFigures_67 rfl ?_
          refine st_aload_n (q := 69) dX1_takeFigures_68 rfl rfl rfl ?_
          refine g_getO (q := 72) dX1_takeFigures_69 rfl fl_X1_12.g hR rfl ?_
          refine g_getA (q := 75) dX1_takeFigures_72 rfl fl_X1_145 hTp rfl ?_
          refine st_aload_n (q := 76) dX1_takeFigures_75 rfl rfl rfl ?_
          refine g_get (q := 79) dX1_takeFigures_76 rfl fl_X1_32.g hR rfl ?_
          refine g_bald (q := 80) dX1_takeFigures_79 rfl gkX4 hTp (i := 0) rfl (by show ev_ix (nI p) 160 p; exact ev_ix_nI (by omega) (by decide)) ?_
          refine st_iadd (q := 81) dX1_takeFigures_80 rfl ?_
          refine st_bipush (q := 83) dX1_takeFigures_81 rfl bp_48 ?_
          refine st_isub (q := 84) dX1_takeFigures_83 rfl ?_
          refine r_put (q := 87) dX1_takeFigures_84 rfl fl_X1_106 hR rfl rfl rfl (fun w hR hF_ => ?_)
          replace hTp := GR.fr gkX4 hTp (fun k h1 h2 => hF_ k (by omega) (by omega))
          replace hF := FrQ.tr hF hF_
          refine st_aload_n (q := 88) dX1_takeFigures_87 rfl rfl rfl ?_
          refine st_dup (q := 89) dX1_takeFigures_88 rfl rfl ?_
          refine g_get (q := 92) dX1_takeFigures_89 rfl fl_X1_32.g hR rfl ?_
          refine st_iconst (q := 93) dX1_takeFigures_92 rfl ic_1 ?_
          refine st_iadd (q := 94) dX1_takeFigures_93 rfl ?_
          refine r_put (q := 97) dX1_takeFigures_94 rfl fl_X1_32 hR rfl rfl rfl (fun w hR hF_ => ?_)
          replace hTp := GR.fr gkX4 hTp (fun k h1 h2 => hF_ k (by omega) (by omega))
          replace hF := FrQ.tr hF hF_
          refine st_goto (q := 5) dX1_takeFigures_97 rfl ?_
          replace hR : RR (tup (tup R 6 0 (vlF (Tp 0) f (p + 1 - f))) 3 0 (nI (p + 1))) n w := by
            rw [show p + 1 - f = p - f + 1 from by omega, vlF, show f + (p - f) = p from by omega, nI_succ]
            rw [tup_swap (T := tup R 6 0 (vlF (Tp 0) f (p - f))) (by decide), tup_tup, tup_tup] at hR
            exact hR
          exact ih (p + 1) (by omega) (by omega) (by omega) (by rw [← he, spF, if_pos (zI_1.mp c_34)]) w hR hTp hF
        · have h3 : ¬ p < f + 2 := fun z => c_47 (by show nI p - R 5 0 < 2; rw [e5, nI_sb h1]; exact nI_lt (b := 2) (by omega) (by decide))
          have h4 : f + 2 < e := by
            rw [← he, spF, if_pos (zI_1.mp c_34)]
            have := spF_ge (q := isF) (b := Tp 0) k (p + 1)
            omega
          refine st_aload_n (q := 51) dX1_takeFigures_50 rfl rfl rfl ?_
          refine st_iconst (q := 52) dX1_takeFigures_51 rfl ic_1 ?_
          refine st_aload_n (q := 53) dX1_takeFigures_52 rfl rfl rfl ?_
          refine g_get (q := 56) dX1_takeFigures_53 rfl fl_X1_76.g hR rfl ?_
          refine sm_V2 (q := 59) (M' := mX1_refuse) dX1_takeFigures_56 rfl ok_X1_refuse mk_X1_refuse ml_X1_68 ⟨Nat.le_of_ble_eq_true rfl, Nat.le_of_ble_eq_true rfl⟩ rfl (Nat.le_of_ble_eq_true rfl) (g_rv hR rfl) ⟨rfl, rfl⟩ (c_X1_refuse hR) ?_
          intro _ n w h9 _
          obtain ⟨rfl, rfl, hR, hF_⟩ := h9
          replace hF := FrQ.tr hF hF_
          refine st_nreturn dX1_takeFigures_59 rfl (by rfl) ?_
          exact ⟨rfl, hF, Or.inr ⟨h4, rfl, _, hR, rfl, by show R 5 0 = nI f; exact e5⟩⟩
  refine st_aload_n (q := 1) dX1_takeFigures_0 rfl rfl rfl ?_
  refine st_iconst (q := 2) dX1_takeFigures_1 rfl ic_0 ?_
  refine r_put (q := 5) dX1_takeFigures_2 rfl fl_X1_106 hR rfl rfl rfl (fun w hR hF_ => ?_)
  replace hTp := GR.fr gkX4 hTp (fun k h1 h2 => hF_ k (by omega) (by omega))
  replace hF := FrQ.tr hF hF_
  refine lp (tl - f) f (by omega) (Nat.le_refl _) (by omega) he w ?_ hTp hF
  rw [Nat.sub_self, tup_id (by rw [tup_n (by decide)]; exact e3)]
  exact hR
