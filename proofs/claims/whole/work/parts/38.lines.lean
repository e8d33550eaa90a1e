def textF (b : Nat → Int32) (tl : Nat) : Nat → Nat → PSt → (Nat × Nat) ⊕ (Nat × PSt)
  | 0, l, s => .inr (l, s)
  | k + 1, l, s => match tokF b tl s.1 with
    | .inl e => .inl e
    | .inr q => if q.1 = 0 then (if hhT s.2.1 s.2.2.2.1 = true then .inr (l, s) else .inl (6, tl)) else (match lineF b tl q s.2.1 s.2.2.1 s.2.2.2.1 s.2.2.2.2.1 s.2.2.2.2.2.1 s.2.2.2.2.2.2 with
      | .inl e => .inl e
      | .inr s' => textF b tl k (l + 1) s')
def s0 (D : gT) : PSt := (0, clT D, 0, 0, 0, 0, 0)
theorem tokF_er {b : Nat → Int32} {tl p : Nat} {e : Nat × Nat} (h : tokF b tl p = .inl e) : e.1 = 1 := by
  unfold tokF at h
  split at h
  · split at h
    · cases h
    · split at h
      · split at h
        · cases h
        · cases h; rfl
      · split at h
        · cases h
        · cases h; rfl
  · cases h
theorem nmF_er {b : Nat → Int32} {tl wd : Nat} {dy : Int32} : ∀ (r k p : Nat) (e : Nat × Nat), nmF b tl wd dy r k p = .inl e → e.1 ≠ 0 ∧ e.1 ≤ 6
  | 0, k, p, e, h => by cases h
  | r + 1, k, p, e, h => by
    rw [nmF] at h
    cases ht : tokF b tl p with
    | inl e' => rw [ht] at h; cases h; rw [tokF_er ht]; decide
    | inr q =>
      rw [ht] at h
      dsimp only at h
      split at h
      · split at h
        · split at h
          · cases h; simp
          · cases hn : nmF b tl wd dy r (k + 1) q.2.2.1 with
            | inl e' => rw [hn] at h; cases h; exact nmF_er r (k + 1) _ _ hn
            | inr s' => rw [hn] at h; cases h
        · cases h; simp
      · cases h; simp
theorem mb_c (wd : Nat) (wt lt : Int32) (nh nt : Nat) : mbF wd wt lt nh nt ≤ 6 := by unfold mbF; split; decide; split <;> decide
theorem lineE_er {b : Nat → Int32} {tl : Nat} {D : gT} {nh nt : Nat} {wt lt dy : Int32} {wd : Nat} {x : (Nat × Nat) ⊕ (List Int32 × Nat)} {e : Nat × Nat} (h : lineE b tl D nh nt wt lt dy wd x = .inl e) (hx : ∀ e', x = .inl e' → e'.1 ≠ 0 ∧ e'.1 ≤ 6) : e.1 ≠ 0 ∧ e.1 ≤ 6 := by
  cases x with
  | inl e' => cases h; exact hx _ rfl
  | inr s =>
    rw [lineE] at h
    cases ht : tokF b tl s.2 with
    | inl e' => rw [ht] at h; cases h; rw [tokF_er ht]; decide
    | inr r =>
      rw [ht] at h
      dsimp only at h
      split at h
      · cases h
      · cases h; simp
theorem lineF_er {b : Nat → Int32} {tl : Nat} {q : Nat × Nat × Nat × Int32} {D : gT} {nh nt : Nat} {wt lt dy : Int32} {e : Nat × Nat} (h : lineF b tl q D nh nt wt lt dy = .inl e) : e.1 ≠ 0 ∧ e.1 ≤ 6 := by
  unfold lineF at h
  split at h
  · split at h
    · exact lineE_er h (fun e' he => nmF_er _ _ _ _ he)
    · rename_i hm
      cases h
      exact ⟨hm, mb_c _ _ _ _ _⟩
  · cases h; simp
theorem lineE_ok {b : Nat → Int32} {tl : Nat} {D : gT} {nh nt : Nat} {wt lt dy : Int32} {wd p : Nat} {x : (Nat × Nat) ⊕ (List Int32 × Nat)} {s : PSt} (h : lineE b tl D nh nt wt lt dy wd x = .inr s) (hx : ∀ y, x = .inr y → p ≤ y.2 ∧ y.2 ≤ tl) (hD : DKp D nh nt) (hwd : wd < 8) (hm : mbF wd wt lt nh nt = 0) : p < s.1 ∧ s.1 ≤ tl ∧ DKp s.2.1 s.2.2.1 s.2.2.2.1 := by
  cases x with
  | inl e' => cases h
  | inr y =>
    have hy := hx _ rfl
    rw [lineE] at h
    cases ht : tokF b tl y.2 with
    | inl e' => rw [ht] at h; cases h
    | inr r =>
      rw [ht] at h
      dsimp only at h
      split at h
      · rename_i hr
        cases h
        have := tokF_le hy.2 ht
        have h3 := this.2.2.2.1 (by omega)
        refine ⟨?_, this.2.2.1, hD.tell hwd (mb4 hm hD.2.1) (mb8 hm hD.2.2.2)⟩
        show p < r.2.2.1
        omega
      · cases h
theorem lineF_ok {b : Nat → Int32} {tl : Nat} {q : Nat × Nat × Nat × Int32} {D : gT} {nh nt : Nat} {wt lt dy : Int32} {s : PSt} (h : lineF b tl q D nh nt wt lt dy = .inr s) (hq : q.2.2.1 ≤ tl) (hD : DKp D nh nt) : q.2.2.1 < s.1 ∧ s.1 ≤ tl ∧ DKp s.2.1 s.2.2.1 s.2.2.2.1 := by
  unfold lineF at h
  split at h
  · rename_i hw
    split at h
    · rename_i hm
      exact lineE_ok h (fun y hy => by have := nmF_ok _ _ _ _ hq hy; exact ⟨this.1, this.2.1⟩) hD hw.2 hm
    · cases h
  · cases h
def XQ (t : (Nat × Nat) ⊕ (Nat × PSt)) (n : Nat) (w : ev_W) : Option Value → Nat → ev_W → Prop := fun a m u => m = n ∧ FrW w u ∧ match t with
  | .inl e => (∃ r, a = some (.int r)) ∧ e.1 ≠ 0 ∧ e.1 ≤ 6 ∧ ∃ R' D', RR R' n u ∧ TR D' 45 n u ∧ R' 10 0 = nI e.1 ∧ R' 11 0 = nI e.2
  | .inr x => a = some (.int (nI x.1)) ∧ ∃ R', RR R' n u ∧ TR x.2.2.1 45 n u ∧ DKp x.2.2.1 x.2.2.2.1 x.2.2.2.2.1 ∧ R' 10 0 = 0
set_option maxRecDepth 100000 in
set_option maxHeartbeats 4000000 in
theorem c_X1_readLines {E : ev_E} {n : Nat} {w : ev_W} {R Tp : gT} (hR : RR R n w) (hTp : PR Tp 43 n w) {tl : Nat} (e1 : Tp 1 0 = nI tl) (ht : tl ≤ 160) {D : gT} (hQ : TR D 45 n w) : Ct E mX1_readLines [.ref 42] n w (XQ (textF (Tp 0) tl (tl + 1) 0 (s0 D)) n w) := by
  refine Ct.of 1 (by decide) (Nat.le_of_ble_eq_true rfl) rfl ?_
  have hF : FrW w w := FrW.rf
  have lp : ∀ (k l : Nat) (s : PSt), tl < s.1 + k → s.1 ≤ tl → l ≤ s.1 → DKp s.2.1 s.2.2.1 s.2.2.2.1 → textF (Tp 0) tl k l s = textF (Tp 0) tl (tl + 1) 0 (s0 D) → ∀ (w1 : ev_W) (R1 : gT), RR R1 n w1 → PR Tp 43 n w1 → TR s.2.1 45 n w1 → FrW w w1 → R1 3 0 = nI s.1 → R1 7 0 = s.2.2.2.2.1 → R1 8 0 = s.2.2.2.2.2.1 → R1 9 0 = s.2.2.2.2.2.2 → R1 10 0 = 0 → Ev E mX1_readLines 39 [some (.ref 42), some (.int (nI l))] [] n w1 (0, 0) (XQ (textF (Tp 0) tl (tl + 1) 0 (s0 D)) n w) := by
    clear hR hTp hF hQ
    intro k
    induction k with
    | zero =>
      intro l s h1 hp
      omega
    | succ k ih =>
      intro l s h1 hp hl hD he w R1 hR hTp hQ hF e3 e7 e8 e9 e10
      refine st_iload_n (q := 40) dX1_readLines_39 rfl rfl rfl ?_
      refine st_aload_n (q := 41) dX1_readLines_40 rfl rfl rfl ?_
      refine g_getO (q := 44) dX1_readLines_41 rfl fl_X1_12.g hR rfl ?_
      refine g_get (q := 47) dX1_readLines_44 rfl fl_X1_52.g hTp rfl ?_
      refine st_icmp_gt (q := 50) (tgt := 77) dX1_readLines_47 rfl rfl (fun c_47 => False.elim (absurd (by rw [← e1]; exact c_47) (nI_nlt (a := tl) (b := l) (by omega) (by omega)))) (fun c_47 => ?_)
      refine st_aload_n (q := 51) dX1_readLines_50 rfl rfl rfl ?_
      refine sm_V0 (q := 54) (M' := mX1_takeToken) dX1_readLines_51 rfl ok_X1_takeToken mk_X1_takeToken ml_X1_55 ⟨Nat.le_of_ble_eq_true rfl, Nat.le_of_ble_eq_true rfl⟩ rfl (Nat.le_of_ble_eq_true rfl) (g_rv hR rfl) ⟨rfl, rfl⟩ (c_X1_takeToken hR hTp e1 ht hp e3) ?_
      intro v9 n w h9 _
      obtain ⟨rfl, hF_, h9⟩ := h9
      replace hQ := GR.fr gkX5 hQ (fun k h1 h2 => hF_ k (by omega) (by omega))
      replace hTp := GR.fr gkX4 hTp (fun k h1 h2 => hF_ k (by omega) (by omega))
      replace hF := FrW.l hF hF_
      obtain ⟨tk, htk⟩ : ∃ t, tokF (Tp 0) tl s.1 = t := ⟨_, rfl⟩
      rw [htk] at h9
      rcases tk with e | q
      · obtain ⟨rfl, R2, hR, h10, h11⟩ := h9
        refine st_if_eq (q := 57) (tgt := 77) dX1_readLines_54 rfl rfl (fun c_54 => ?_) (fun c_54 => False.elim (c_54 rfl))
        refine st_aload_n (q := 78) dX1_readLines_77 rfl rfl rfl ?_
        refine g_get (q := 81) dX1_readLines_78 rfl fl_X1_46.g hR rfl ?_
        refine st_if_ne (q := 84) (tgt := 108) dX1_readLines_81 rfl rfl (fun c_81 => ?_) (fun c_81 => False.elim (c_81 |> fun z => absurd (show R2 10 0 = 0 from z) (by rw [h10, tokF_er htk]; decide)))
        refine st_iload_n (q := 109) dX1_readLines_108 rfl rfl rfl ?_
        refine st_ireturn dX1_readLines_109 rfl ?_
        refine ⟨rfl, hF, ?_⟩
        rw [← he, textF, htk]
        exact ⟨⟨_, rfl⟩, by rw [tokF_er htk]; decide, by rw [tokF_er htk]; decide, R2, s.2.1, hR, hQ, h10, h11⟩
      · obtain ⟨rfl, R2, hR, h3, h4, h5, h6, h7⟩ := h9
        have hqq := tokF_le hp htk
        have g7 : R2 7 0 = s.2.2.2.2.1 := by rw [h7 7 (by decide) (by decide) (by decide) (by decide)]; exact e7
        have g8 : R2 8 0 = s.2.2.2.2.2.1 := by rw [h7 8 (by decide) (by decide) (by decide) (by decide)]; exact e8
        have g9 : R2 9 0 = s.2.2.2.2.2.2 := by rw [h7 9 (by decide) (by decide) (by decide) (by decide)]; exact e9
        have g10 : R2 10 0 = R1 10 0 := by rw [h7 10 (by decide) (by decide) (by decide) (by decide)]
        refine st_if_eq (q := 57) (tgt := 77) dX1_readLines_54 rfl rfl (fun c_54 => False.elim (absurd c_54 (by decide))) (fun c_54 => ?_)
        refine st_aload_n (q := 58) dX1_readLines_57 rfl rfl rfl ?_
        refine g_get (q := 61) dX1_readLines_58 rfl fl_X1_59.g hR rfl ?_
        refine st_if_eq (q := 64) (tgt := 77) dX1_readLines_61 rfl rfl (fun c_61 => ?_) (fun c_61 => ?_)
        · have hk0 : q.1 = 0 := nI_z (by have := hqq.2.2.2.2.2; omega) (by rw [← h4]; exact c_61)
          refine st_aload_n (q := 78) dX1_readLines_77 rfl rfl rfl ?_
          refine g_get (q := 81) dX1_readLines_78 rfl fl_X1_46.g hR rfl ?_
          refine st_if_ne (q := 84) (tgt := 108) dX1_readLines_81 rfl rfl (fun c_81 => False.elim (c_81 (by rw [g10]; exact e10))) (fun c_81 => ?_)
          refine st_aload_n (q := 85) dX1_readLines_84 rfl rfl rfl ?_
          refine g_getO (q := 88) dX1_readLines_85 rfl fl_X1_21.g hR rfl ?_
          refine sp_V0 (q := 91) (M' := mX5_hasHomes) dX1_readLines_88 rfl ok_X5_hasHomes mk_X5_hasHomes ml_X1_65 ⟨Nat.le_of_ble_eq_true rfl, Nat.le_of_ble_eq_true rfl⟩ rfl (Nat.le_of_ble_eq_true rfl) (g_rv hQ rfl) ⟨rfl, rfl⟩ (c_X5_hasHomes hQ hD.2.2.1 hD.2.2.2) ?_
          refine st_if_ne (q := 94) (tgt := 108) dX1_readLines_91 rfl rfl (fun c_91 => ?_) (fun c_91 => ?_)
          · refine st_iload_n (q := 109) dX1_readLines_108 rfl rfl rfl ?_
            refine st_ireturn dX1_readLines_109 rfl ?_
            refine ⟨rfl, hF, ?_⟩
            rw [← he, textF, htk]
            dsimp only
            rw [if_pos hk0]
            first
              | (rw [if_pos (zI_1.mp c_91)]; exact ⟨rfl, R2, hR, hQ, hD, by rw [g10]; exact e10⟩)
              | (rw [if_neg (by rw [zI_0.mp c_91]; decide)]; exact ⟨⟨_, rfl⟩, by simp, by simp, _, s.2.1, hR, hQ, rfl, e1⟩)
          · refine st_aload_n (q := 95) dX1_readLines_94 rfl rfl rfl ?_
            refine st_bipush (q := 97) dX1_readLines_95 rfl bp_6 ?_
            refine st_aload_n (q := 98) dX1_readLines_97 rfl rfl rfl ?_
            refine g_getO (q := 101) dX1_readLines_98 rfl fl_X1_12.g hR rfl ?_
            refine g_get (q := 104) dX1_readLines_101 rfl fl_X1_52.g hTp rfl ?_
            refine sm_V2 (q := 107) (M' := mX1_refuse) dX1_readLines_104 rfl ok_X1_refuse mk_X1_refuse ml_X1_68 ⟨Nat.le_of_ble_eq_true rfl, Nat.le_of_ble_eq_true rfl⟩ rfl (Nat.le_of_ble_eq_true rfl) (g_rv hR rfl) ⟨rfl, rfl⟩ (c_X1_refuse hR) ?_
            intro _ n w h9 _
            obtain ⟨rfl, rfl, hR, hF_⟩ := h9
            replace hQ := GR.fr gkX5 hQ (fun k h1 h2 => hF_ k (by omega) (by omega))
            replace hTp := GR.fr gkX4 hTp (fun k h1 h2 => hF_ k (by omega) (by omega))
            replace hF := FrW.l hF hF_
            refine st_pop (q := 108) dX1_readLines_107 rfl rfl ?_
            refine st_iload_n (q := 109) dX1_readLines_108 rfl rfl rfl ?_
            refine st_ireturn dX1_readLines_109 rfl ?_
            refine ⟨rfl, hF, ?_⟩
            rw [← he, textF, htk]
            dsimp only
            rw [if_pos hk0]
            first
              | (rw [if_pos (zI_1.mp c_91)]; exact ⟨rfl, R2, hR, hQ, hD, by rw [g10]; exact e10⟩)
              | (rw [if_neg (by rw [zI_0.mp c_91]; decide)]; exact ⟨⟨_, rfl⟩, by simp, by simp, _, s.2.1, hR, hQ, rfl, e1⟩)
        · have hk0 : ¬ q.1 = 0 := fun z => c_61 (by rw [h4, z]; rfl)
          refine st_aload_n (q := 65) dX1_readLines_64 rfl rfl rfl ?_
          refine sm_V0 (q := 68) (M' := mX1_takeLine) dX1_readLines_65 rfl ok_X1_takeLine mk_X1_takeLine ml_X1_62 ⟨Nat.le_of_ble_eq_true rfl, Nat.le_of_ble_eq_true rfl⟩ rfl (Nat.le_of_ble_eq_true rfl) (g_rv hR rfl) ⟨rfl, rfl⟩ (c_X1_takeLine hR hTp e1 ht hQ hD hqq.2.2.2.2.2 hqq.2.1 hqq.2.2.1 h4 h5 h3) ?_
          intro v9 n w h9 _
          obtain ⟨rfl, hF_, h9⟩ := h9
          replace hTp := GR.fr gkX4 hTp (fun k h1 h2 => hF_ k (by omega) (by omega))
          replace hF := FrW.tr hF hF_
          rw [g7, g8, g9] at h9
          obtain ⟨ln, hln⟩ : ∃ t, lineF (Tp 0) tl q s.2.1 s.2.2.1 s.2.2.2.1 s.2.2.2.2.1 s.2.2.2.2.2.1 s.2.2.2.2.2.2 = t := ⟨_, rfl⟩
          rw [hln] at h9
          rcases ln with e | s2
          · obtain ⟨rfl, R3, D3, hR, hQ, h10, h11⟩ := h9
            have her := lineF_er hln
            refine st_if_eq (q := 71) (tgt := 77) dX1_readLines_68 rfl rfl (fun c_68 => ?_) (fun c_68 => False.elim (c_68 rfl))
            refine st_aload_n (q := 78) dX1_readLines_77 rfl rfl rfl ?_
            refine g_get (q := 81) dX1_readLines_78 rfl fl_X1_46.g hR rfl ?_
            refine st_if_ne (q := 84) (tgt := 108) dX1_readLines_81 rfl rfl (fun c_81 => ?_) (fun c_81 => False.elim (absurd (show R3 10 0 = 0 from c_81) (by rw [h10]; exact nI_ne (b := 0) (by omega) (by decide) her.1)))
            refine st_iload_n (q := 109) dX1_readLines_108 rfl rfl rfl ?_
            refine st_ireturn dX1_readLines_109 rfl ?_
            refine ⟨rfl, hF, ?_⟩
            rw [← he, textF, htk]
            dsimp only
            rw [if_neg hk0, hln]
            exact ⟨⟨_, rfl⟩, her.1, her.2, R3, D3, hR, hQ, h10, h11⟩
          · obtain ⟨rfl, R3, hR, hQ, h3, h7a, h8a, h9a, h10⟩ := h9
            have hok := lineF_ok hln hqq.2.2.1 hD
            have hq9 := hqq.2.2.2.1 hk0
            refine st_if_eq (q := 71) (tgt := 77) dX1_readLines_68 rfl rfl (fun c_68 => False.elim (absurd c_68 (by decide))) (fun c_68 => ?_)
            refine st_iinc (q := 74) (L' := [_, _]) dX1_readLines_71 rfl rfl (nI_succ _).symm (Nat.le_of_ble_eq_true rfl) rfl ?_
            refine st_goto (q := 39) dX1_readLines_74 rfl ?_
            refine ih (l + 1) s2 (by omega) (by omega) (by omega) hok.2.2 ?_ w R3 hR hTp hQ hF h3 h7a h8a h9a (by rw [h10, g10]; exact e10)
            rw [← he, textF, htk]
            dsimp only
            rw [if_neg hk0, hln]
  refine st_aload_n (q := 1) dX1_readLines_0 rfl rfl rfl ?_
  refine g_getO (q := 4) dX1_readLines_1 rfl fl_X1_21.g hR rfl ?_
  refine sm_V0 (q := 7) (M' := mX5_clear) dX1_readLines_4 rfl ok_X5_clear mk_X5_clear ml_X1_29 ⟨Nat.le_of_ble_eq_true rfl, Nat.le_of_ble_eq_true rfl⟩ rfl (Nat.le_of_ble_eq_true rfl) (g_rv hQ rfl) ⟨rfl, rfl⟩ (c_X5_clear hQ) ?_
  intro _ n w h9 _
  obtain ⟨rfl, rfl, hQ, hF_⟩ := h9
  replace hR := RR.fr hR (hF_ 42 (by omega)) (hF_ 55 (by omega))
  replace hTp := GR.fr gkX4 hTp (fun k h1 h2 => hF_ k (by omega))
  replace hF := FrW.r hF hF_
  refine st_aload_n (q := 8) dX1_readLines_7 rfl rfl rfl ?_
  refine st_iconst (q := 9) dX1_readLines_8 rfl ic_0 ?_
  refine r_put (q := 12) dX1_readLines_9 rfl fl_X1_32 hR rfl rfl rfl (fun w hR hF_ => ?_)
  replace hQ := GR.fr gkX5 hQ (fun k h1 h2 => hF_ k (by omega) (by omega))
  replace hTp := GR.fr gkX4 hTp (fun k h1 h2 => hF_ k (by omega) (by omega))
  replace hF := FrW.l hF hF_
  refine st_aload_n (q := 13) dX1_readLines_12 rfl rfl rfl ?_
  refine st_iconst (q := 14) dX1_readLines_13 rfl ic_0 ?_
  refine r_put (q := 17) dX1_readLines_14 rfl fl_X1_36 hR rfl (by decide) (by decide) (fun w hR hF_ => ?_)
  replace hQ := GR.fr gkX5 hQ (fun k h1 h2 => hF_ k (by omega) (by omega))
  replace hTp := GR.fr gkX4 hTp (fun k h1 h2 => hF_ k (by omega) (by omega))
  replace hF := FrW.l hF hF_
  refine st_aload_n (q := 18) dX1_readLines_17 rfl rfl rfl ?_
  refine st_iconst (q := 19) dX1_readLines_18 rfl ic_0 ?_
  refine r_put (q := 22) dX1_readLines_19 rfl fl_X1_40 hR rfl (by decide) (by decide) (fun w hR hF_ => ?_)
  replace hQ := GR.fr gkX5 hQ (fun k h1 h2 => hF_ k (by omega) (by omega))
  replace hTp := GR.fr gkX4 hTp (fun k h1 h2 => hF_ k (by omega) (by omega))
  replace hF := FrW.l hF hF_
  refine st_aload_n (q := 23) dX1_readLines_22 rfl rfl rfl ?_
  refine st_iconst (q := 24) dX1_readLines_23 rfl ic_0 ?_
  refine r_put (q := 27) dX1_readLines_24 rfl fl_X1_43 hR rfl rfl rfl (fun w hR hF_ => ?_)
  replace hQ := GR.fr gkX5 hQ (fun k h1 h2 => hF_ k (by omega) (by omega))
  replace hTp := GR.fr gkX4 hTp (fun k h1 h2 => hF_ k (by omega) (by omega))
  replace hF := FrW.l hF hF_
  refine st_aload_n (q := 28) dX1_readLines_27 rfl rfl rfl ?_
  refine st_iconst (q := 29) dX1_readLines_28 rfl ic_0 ?_
  refine r_put (q := 32) dX1_readLines_29 rfl fl_X1_46 hR rfl rfl rfl (fun w hR hF_ => ?_)
  replace hQ := GR.fr gkX5 hQ (fun k h1 h2 => hF_ k (by omega) (by omega))
  replace hTp := GR.fr gkX4 hTp (fun k h1 h2 => hF_ k (by omega) (by omega))
  replace hF := FrW.l hF hF_
  refine st_aload_n (q := 33) dX1_readLines_32 rfl rfl rfl ?_
  refine st_iconst (q := 34) dX1_readLines_33 rfl ic_0 ?_
  refine r_put (q := 37) dX1_readLines_34 rfl fl_X1_49 hR rfl rfl rfl (fun w hR hF_ => ?_)
  replace hQ := GR.fr gkX5 hQ (fun k h1 h2 => hF_ k (by omega) (by omega))
  replace hTp := GR.fr gkX4 hTp (fun k h1 h2 => hF_ k (by omega) (by omega))
  replace hF := FrW.l hF hF_
  refine st_iconst (q := 38) dX1_readLines_37 rfl ic_0 ?_
  refine st_istore_n (q := 39) (L' := [_, _]) dX1_readLines_38 rfl rfl (Nat.le_of_ble_eq_true rfl) rfl ?_
  exact lp (tl + 1) 0 (s0 D) (by omega) (Nat.zero_le _) (Nat.le_refl _) ⟨rfl, Nat.zero_le _, rfl, Nat.zero_le _⟩ rfl w _ hR hTp hQ hF rfl rfl rfl rfl rfl
def TXT (X Tn : gT) (Ti : Nat → gT) (Tp Sg : gT) (Sh : Nat → gT) (n : Nat) (w : ev_W) (t : (Nat × Nat) ⊕ (Nat × PSt)) : Option Value → Nat → ev_W → Prop := fun a m u => m = n ∧ Fr 0 70 w u ∧ match t with
  | .inl e => a = some (.int (-10 - nI e.2)) ∧ XI (tup X 5 0 (nI e.1)) Tn Ti (tup Tp 1 0 0) Sg Sh n u ∧ e.1 ≠ 0 ∧ e.1 ≤ 6
  | .inr x => a = some (.int (nI x.1)) ∧ XI (tup (tup X 5 0 0) 3 0 0) x.2.2.1 Ti (tup Tp 1 0 0) (tup Sg 2 0 0) Sh n u ∧ DKp x.2.2.1 x.2.2.2.1 x.2.2.2.2.1
theorem XI.setRQ {X Tn : gT} {Ti : Nat → gT} {Tp Sg : gT} {Sh : Nat → gT} {n : Nat} {w : ev_W} (h : XI X Tn Ti Tp Sg Sh n w) {w' : ev_W} {R' T' : gT} (hz : RR R' n w') (hq : TR T' 45 n w') (hf : FrW w w') : XI X Tn Ti Tp Sg Sh n w' := by
  refine ⟨h.hn, ?_, ?_, ?_, ?_, ?_, ?_, ?_, ?_, ?_, ?_, ?_, ?_⟩
  · exact GR.fr gkX6 h.x (fun k h1 h2 => hf k (by omega) (by omega))
  · exact GR.fr gkX5 h.now (fun k h1 h2 => hf k (by omega) (by omega))
  · exact (by obtain ⟨Tq, q⟩ := h.tr; exact ⟨Tq, GR.fr gkX5 q (fun k h1 h2 => hf k (by omega) (by omega))⟩)
  · exact (by obtain ⟨g, q⟩ := h.ir; exact ⟨g, by rw [hf 21 (by omega) (by omega)]; exact q.1, q.2⟩)
  · exact (fun k hk => GR.fr gkX5 (h.im k hk) (fun j h1 h2 => hf j (by omega) (by omega)))
  · exact GR.fr gkX4 h.tp (fun k h1 h2 => hf k (by omega) (by omega))
  · exact ⟨_, hz⟩
  · exact GR.fr gkX3 h.sg (fun k h1 h2 => hf k (by omega) (by omega))
  · exact (by obtain ⟨U, q⟩ := h.fu; exact ⟨U, GR.fr gkX0 q (fun k h1 h2 => hf k (by omega) (by omega))⟩)
  · exact (by obtain ⟨g, q⟩ := h.sr; exact ⟨g, by rw [hf 61 (by omega) (by omega)]; exact q.1, q.2⟩)
  · exact (fun k hk => GR.fr gkX2 (h.sh k hk) (fun j h1 h2 => hf j (by omega) (by omega)))
  · exact ⟨_, hq⟩
set_option maxRecDepth 100000 in
set_option maxHeartbeats 4000000 in
theorem c_X6_text {E : ev_E} {X Tn : gT} {Ti : Nat → gT} {Tp Sg : gT} {Sh : Nat → gT} {n : Nat} {w : ev_W} {w0 : ev_W} (hF : Fr 0 70 w0 w) (hX : XI X Tn Ti Tp Sg Sh n w) {tl : Nat} (e1 : Tp 1 0 = nI tl) (ht : tl ≤ 160) : Ct E mX6_text [.ref 0] n w (fun a m u => ∃ D, TXT X Tn Ti Tp Sg Sh n w0 (textF (Tp 0) tl (tl + 1) 0 (s0 D)) a m u) := by
  refine Ct.of 1 (by decide) (Nat.le_of_ble_eq_true rfl) rfl ?_
  obtain ⟨D, hQ⟩ := hX.dr
  obtain ⟨R, hRd⟩ := hX.rd
  refine st_aload_n (q := 1) dX6_text_0 rfl rfl rfl ?_
  refine g_getO (q := 4) dX6_text_1 rfl fl_X6_26.g hX.x rfl ?_
  refine sm_V0 (q := 7) (M' := mX1_readLines) dX6_text_4 rfl ok_X1_readLines mk_X1_readLines ml_X6_69 ⟨Nat.le_of_ble_eq_true rfl, Nat.le_of_ble_eq_true rfl⟩ rfl (Nat.le_of_ble_eq_true rfl) (g_rv hRd rfl) ⟨rfl, rfl⟩ (c_X1_readLines hRd hX.tp e1 ht hQ) ?_
  intro v9 n w h9 _
  obtain ⟨rfl, hF_, h9⟩ := h9
  obtain ⟨tx, htx⟩ : ∃ t, textF (Tp 0) tl (tl + 1) 0 (s0 D) = t := ⟨_, rfl⟩
  rw [htx] at h9
  rcases tx with e | x
  · obtain ⟨⟨r9, rfl⟩, he0, he6, R2, D2, hRd, hQ, h10, h11⟩ := h9
    replace hX := hX.setRQ hRd hQ hF_
    replace hF := hF.wq hF_
    refine st_istore_n (q := 8) (L' := [_, _]) dX6_text_7 rfl rfl (Nat.le_of_ble_eq_true rfl) rfl ?_
    refine st_aload_n (q := 9) dX6_text_8 rfl rfl rfl ?_
    refine g_getO (q := 12) dX6_text_9 rfl fl_X6_26.g hX.x rfl ?_
    refine g_getO (q := 15) dX6_text_12 rfl fl_X6_55 hRd rfl ?_
    refine st_iconst (q := 16) dX6_text_15 rfl ic_0 ?_
    refine g_put (q := 19) dX6_text_16 rfl fl_X6_65 gkX4 hX.tp rfl rfl rfl (fun w hZ hF_ => ?_)
    replace hRd := RR.fr hRd (hF_ 42 (by omega)) (hF_ 55 (by omega))
    replace hQ := GR.fr gkX5 hQ (fun k h1 h2 => hF_ k (by omega))
    replace hX := hX.setTp hZ hF_
    replace hF := Fr.tr hF (hF_.mono (by omega) (by omega))
    refine st_aload_n (q := 20) dX6_text_19 rfl rfl rfl ?_
    refine st_aload_n (q := 21) dX6_text_20 rfl rfl rfl ?_
    refine g_getO (q := 24) dX6_text_21 rfl fl_X6_26.g hX.x rfl ?_
    refine g_get (q := 27) dX6_text_24 rfl fl_X6_73.g hRd rfl ?_
    refine g_put (q := 30) dX6_text_27 rfl fl_X6_76 gkX6 hX.x rfl rfl rfl (fun w hZ hF_ => ?_)
    replace hRd := RR.fr hRd (hF_ 42 (by omega)) (hF_ 55 (by omega))
    replace hQ := GR.fr gkX5 hQ (fun k h1 h2 => hF_ k (by omega))
    replace hX := hX.setX hZ hF_
    replace hF := Fr.tr hF (hF_.mono (by omega) (by omega))
    refine st_aload_n (q := 31) dX6_text_30 rfl rfl rfl ?_
    refine g_get (q := 34) dX6_text_31 rfl fl_X6_76.g hX.x rfl ?_
    refine st_if_eq (q := 37) (tgt := 48) dX6_text_34 rfl rfl (fun c_34 => False.elim (absurd (show R2 10 0 = 0 from c_34) (by rw [h10]; exact nI_ne (b := 0) (by omega) (by decide) he0))) (fun c_34 => ?_)
    refine st_bipush (q := 39) dX6_text_37 rfl bp_m10 ?_
    refine st_aload_n (q := 40) dX6_text_39 rfl rfl rfl ?_
    refine g_getO (q := 43) dX6_text_40 rfl fl_X6_26.g hX.x rfl ?_
    refine g_get (q := 46) dX6_text_43 rfl fl_X6_79.g hRd rfl ?_
    refine st_isub (q := 47) dX6_text_46 rfl ?_
    refine st_ireturn dX6_text_47 rfl ?_
    refine ⟨D, rfl, hF, ?_⟩
    rw [htx]
    replace hX : XI (tup X 5 0 (nI e.1)) Tn Ti (tup Tp 1 0 0) Sg Sh n w := by rw [← h10]; exact hX
    exact ⟨by rw [h11], hX, he0, he6⟩
  · obtain ⟨rfl, R2, hRd, hQ, hDD, h10⟩ := h9
    replace hX := hX.setRQ hRd hQ hF_
    replace hF := hF.wq hF_
    refine st_istore_n (q := 8) (L' := [_, _]) dX6_text_7 rfl rfl (Nat.le_of_ble_eq_true rfl) rfl ?_
    refine st_aload_n (q := 9) dX6_text_8 rfl rfl rfl ?_
    refine g_getO (q := 12) dX6_text_9 rfl fl_X6_26.g hX.x rfl ?_
    refine g_getO (q := 15) dX6_text_12 rfl fl_X6_55 hRd rfl ?_
    refine st_iconst (q := 16) dX6_text_15 rfl ic_0 ?_
    refine g_put (q := 19) dX6_text_16 rfl fl_X6_65 gkX4 hX.tp rfl rfl rfl (fun w hZ hF_ => ?_)
    replace hRd := RR.fr hRd (hF_ 42 (by omega)) (hF_ 55 (by omega))
    replace hQ := GR.fr gkX5 hQ (fun k h1 h2 => hF_ k (by omega))
    replace hX := hX.setTp hZ hF_
    replace hF := Fr.tr hF (hF_.mono (by omega) (by omega))
    refine st_aload_n (q := 20) dX6_text_19 rfl rfl rfl ?_
    refine st_aload_n (q := 21) dX6_text_20 rfl rfl rfl ?_
    refine g_getO (q := 24) dX6_text_21 rfl fl_X6_26.g hX.x rfl ?_
    refine g_get (q := 27) dX6_text_24 rfl fl_X6_73.g hRd rfl ?_
    refine g_put (q := 30) dX6_text_27 rfl fl_X6_76 gkX6 hX.x rfl rfl rfl (fun w hZ hF_ => ?_)
    replace hRd := RR.fr hRd (hF_ 42 (by omega)) (hF_ 55 (by omega))
    replace hQ := GR.fr gkX5 hQ (fun k h1 h2 => hF_ k (by omega))
    replace hX := hX.setX hZ hF_
    replace hF := Fr.tr hF (hF_.mono (by omega) (by omega))
    refine st_aload_n (q := 31) dX6_text_30 rfl rfl rfl ?_
    refine g_get (q := 34) dX6_text_31 rfl fl_X6_76.g hX.x rfl ?_
    refine st_if_eq (q := 37) (tgt := 48) dX6_text_34 rfl rfl (fun c_34 => ?_) (fun c_34 => False.elim (c_34 (show R2 10 0 = 0 from h10)))
    refine st_aload_n (q := 49) dX6_text_48 rfl rfl rfl ?_
    refine g_getO (q := 52) dX6_text_49 rfl fl_X6_10.g hX.x rfl ?_
    refine st_aload_n (q := 53) dX6_text_52 rfl rfl rfl ?_
    refine g_getO (q := 56) dX6_text_53 rfl fl_X6_26.g hX.x rfl ?_
    refine g_getO (q := 59) dX6_text_56 rfl fl_X6_82 hRd rfl ?_
    refine sm_V1 (q := 62) (M' := mX5_copyFrom) dX6_text_59 rfl ok_X5_copyFrom mk_X5_copyFrom ml_X6_85 ⟨Nat.le_of_ble_eq_true rfl, Nat.le_of_ble_eq_true rfl⟩ rfl (Nat.le_of_ble_eq_true rfl) (g_rv hX.now rfl) ⟨rfl, rfl⟩ (c_X5_copyFrom hX.now hQ (by omega)) ?_
    intro _ n w h9 _
    obtain ⟨rfl, rfl, ⟨hZ, hQ⟩, hF_⟩ := h9
    replace hRd := RR.fr hRd (hF_ 42 (by omega)) (hF_ 55 (by omega))
    replace hX := hX.setNow hZ hF_
    replace hF := Fr.tr hF (hF_.mono (by omega) (by omega))
    refine st_aload_n (q := 63) dX6_text_62 rfl rfl rfl ?_
    refine g_getO (q := 66) dX6_text_63 rfl fl_X6_33.g hX.x rfl ?_
    refine st_iconst (q := 67) dX6_text_66 rfl ic_0 ?_
    refine g_put (q := 70) dX6_text_67 rfl fl_X6_89 gkX3 hX.sg rfl rfl rfl (fun w hZ hF_ => ?_)
    replace hRd := RR.fr hRd (hF_ 42 (by omega)) (hF_ 55 (by omega))
    replace hQ := GR.fr gkX5 hQ (fun k h1 h2 => hF_ k (by omega))
    replace hX := hX.setSg hZ hF_
    replace hF := Fr.tr hF (hF_.mono (by omega) (by omega))
    refine st_aload_n (q := 71) dX6_text_70 rfl rfl rfl ?_
    refine st_iconst (q := 72) dX6_text_71 rfl ic_0 ?_
    refine g_put (q := 75) dX6_text_72 rfl fl_X6_92 gkX6 hX.x rfl rfl rfl (fun w hZ hF_ => ?_)
    replace hRd := RR.fr hRd (hF_ 42 (by omega)) (hF_ 55 (by omega))
    replace hQ := GR.fr gkX5 hQ (fun k h1 h2 => hF_ k (by omega))
    replace hX := hX.setX hZ hF_
    replace hF := Fr.tr hF (hF_.mono (by omega) (by omega))
    refine st_iload_n (q := 76) dX6_text_75 rfl rfl rfl ?_
    refine st_ireturn dX6_text_76 rfl ?_
    refine ⟨D, rfl, hF, ?_⟩
    rw [htx]
    replace hX : XI (tup (tup X 5 0 0) 3 0 0) x.2.2.1 Ti (tup Tp 1 0 0) (tup Sg 2 0 0) Sh n w := by rw [h10] at hX; exact hX
    exact ⟨rfl, hX, hDD⟩
