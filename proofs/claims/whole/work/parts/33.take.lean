set_option maxRecDepth 100000 in
set_option maxHeartbeats 4000000 in
theorem c_X1_takeToken {E : ev_E} {n : Nat} {w : ev_W} {R Tp : gT} (hR : RR R n w) (hTp : PR Tp 43 n w) {tl : Nat} (e1 : Tp 1 0 = nI tl) (ht : tl ≤ 160) {p : Nat} (hp : p ≤ tl) (e3 : R 3 0 = nI p) : Ct E mX1_takeToken [.ref 42] n w (TQ R (tokF (Tp 0) tl p) n w) := by
  refine Ct.of 1 (by decide) (Nat.le_of_ble_eq_true rfl) rfl ?_
  obtain ⟨f, hf⟩ : ∃ f, spF isS (Tp 0) (tl - p) p = f := ⟨_, rfl⟩
  have hfl : f ≤ tl := by have := spF_le (q := isS) (b := Tp 0) (tl - p) p; omega
  have hF : FrQ w w := FrQ.rf
  have fin : ∀ (w1 : ev_W), RR (tup R 3 0 (nI f)) n w1 → PR Tp 43 n w1 → FrQ w w1 → Ev E mX1_takeToken 44 [some (.ref 42), none] [] n w1 (0, 0) (TQ R (tokF (Tp 0) tl p) n w) := by
    clear hR hTp hF e3
    intro w hR hTp hF
    refine st_aload_n (q := 45) dX1_takeToken_44 rfl rfl rfl ?_
    refine st_aload_n (q := 46) dX1_takeToken_45 rfl rfl rfl ?_
    refine g_get (q := 49) dX1_takeToken_46 rfl fl_X1_32.g hR rfl ?_
    refine r_put (q := 52) dX1_takeToken_49 rfl fl_X1_76 hR rfl rfl rfl (fun w hR hF_ => ?_)
    replace hTp := GR.fr gkX4 hTp (fun k h1 h2 => hF_ k (by omega) (by omega))
    replace hF := FrQ.tr hF hF_
    refine st_aload_n (q := 53) dX1_takeToken_52 rfl rfl rfl ?_
    refine g_get (q := 56) dX1_takeToken_53 rfl fl_X1_32.g hR rfl ?_
    refine st_aload_n (q := 57) dX1_takeToken_56 rfl rfl rfl ?_
    refine g_getO (q := 60) dX1_takeToken_57 rfl fl_X1_12.g hR rfl ?_
    refine g_get (q := 63) dX1_takeToken_60 rfl fl_X1_52.g hTp rfl ?_
    refine st_icmp_lt (q := 66) (tgt := 73) dX1_takeToken_63 rfl rfl (fun c_63 => ?_) (fun c_63 => ?_)
    · have hlt : f < tl := by
        rcases Nat.lt_or_ge f tl with z | z
        · exact z
        · refine absurd ?_ (nI_nlt (a := f) (b := tl) z (by omega))
          rw [← e1]; exact c_63
      refine st_aload_n (q := 74) dX1_takeToken_73 rfl rfl rfl ?_
      refine g_getO (q := 77) dX1_takeToken_74 rfl fl_X1_12.g hR rfl ?_
      refine g_getA (q := 80) dX1_takeToken_77 rfl fl_X1_145 hTp rfl ?_
      refine st_aload_n (q := 81) dX1_takeToken_80 rfl rfl rfl ?_
      refine g_get (q := 84) dX1_takeToken_81 rfl fl_X1_32.g hR rfl ?_
      refine g_bald (q := 85) dX1_takeToken_84 rfl gkX4 hTp (i := 0) rfl (by show ev_ix (nI f) 160 f; exact ev_ix_nI (by omega) (by decide)) ?_
      refine st_istore_n (q := 86) (L' := [_, _]) dX1_takeToken_85 rfl rfl (Nat.le_of_ble_eq_true rfl) rfl ?_
      refine st_iload_n (q := 87) dX1_takeToken_86 rfl rfl rfl ?_
      refine sp_S1 (q := 90) (M' := mX1_isLetter) dX1_takeToken_87 rfl ok_X1_isLetter mk_X1_isLetter ml_X1_149 ⟨Nat.le_of_ble_eq_true rfl, Nat.le_of_ble_eq_true rfl⟩ rfl (Nat.le_of_ble_eq_true rfl) ⟨rfl, rfl⟩ (c_X1_isLetter) ?_
      refine st_if_eq (q := 93) (tgt := 104) dX1_takeToken_90 rfl rfl (fun c_90 => ?_) (fun c_90 => ?_)
      · refine st_iload_n (q := 105) dX1_takeToken_104 rfl rfl rfl ?_
        refine sp_S1 (q := 108) (M' := mX1_isFigure) dX1_takeToken_105 rfl ok_X1_isFigure mk_X1_isFigure ml_X1_155 ⟨Nat.le_of_ble_eq_true rfl, Nat.le_of_ble_eq_true rfl⟩ rfl (Nat.le_of_ble_eq_true rfl) ⟨rfl, rfl⟩ (c_X1_isFigure) ?_
        refine st_if_eq (q := 111) (tgt := 121) dX1_takeToken_108 rfl rfl (fun c_108 => ?_) (fun c_108 => ?_)
        · have hnl : ¬ isL (Tp 0 f) = true := by rw [zI_0.mp c_90]; decide
          have hnf : ¬ isF (Tp 0 f) = true := by rw [zI_0.mp c_108]; decide
          refine st_aload_n (q := 122) dX1_takeToken_121 rfl rfl rfl ?_
          refine st_iconst (q := 123) dX1_takeToken_122 rfl ic_3 ?_
          refine r_put (q := 126) dX1_takeToken_123 rfl fl_X1_59 hR rfl rfl rfl (fun w hR hF_ => ?_)
          replace hTp := GR.fr gkX4 hTp (fun k h1 h2 => hF_ k (by omega) (by omega))
          replace hF := FrQ.tr hF hF_
          refine st_aload_n (q := 127) dX1_takeToken_126 rfl rfl rfl ?_
          refine st_dup (q := 128) dX1_takeToken_127 rfl rfl ?_
          refine g_get (q := 131) dX1_takeToken_128 rfl fl_X1_32.g hR rfl ?_
          refine st_iconst (q := 132) dX1_takeToken_131 rfl ic_1 ?_
          refine st_iadd (q := 133) dX1_takeToken_132 rfl ?_
          refine r_put (q := 136) dX1_takeToken_133 rfl fl_X1_32 hR rfl rfl rfl (fun w hR hF_ => ?_)
          replace hTp := GR.fr gkX4 hTp (fun k h1 h2 => hF_ k (by omega) (by omega))
          replace hF := FrQ.tr hF hF_
          refine st_iload_n (q := 137) dX1_takeToken_136 rfl rfl rfl ?_
          refine st_bipush (q := 139) dX1_takeToken_137 rfl bp_59 ?_
          refine st_icmp_eq (q := 142) (tgt := 154) dX1_takeToken_139 rfl rfl (fun c_139 => ?_) (fun c_139 => ?_)
          · refine st_iconst (q := 155) dX1_takeToken_154 rfl ic_1 ?_
            refine st_goto (q := 159) dX1_takeToken_155 rfl ?_
            refine st_nreturn dX1_takeToken_159 rfl (by rfl) ?_
            first
              | (have htk : tokF (Tp 0) tl p = .inr (3, f, f + 1, 0) := by rw [tokF, hf, if_pos hlt, if_neg hnl, if_neg hnf, if_pos c_139])
              | (have htk : tokF (Tp 0) tl p = .inl (1, f) := by rw [tokF, hf, if_pos hlt, if_neg hnl, if_neg hnf, if_neg c_139])
            first
              | exact ⟨rfl, hF, by rw [htk]; exact ⟨rfl, _, hR, (nI_succ f).symm, rfl, rfl, (fun z => absurd (show (3 : Nat) = 2 from z) (by decide)), by intro g g3 g4 g5 g6; simp only [tup, g3, g4, g5, g6, if_false]⟩⟩
              | exact ⟨rfl, hF, by rw [htk]; exact ⟨rfl, _, hR, rfl, rfl⟩⟩
          · refine st_aload_n (q := 143) dX1_takeToken_142 rfl rfl rfl ?_
            refine st_iconst (q := 144) dX1_takeToken_143 rfl ic_1 ?_
            refine st_aload_n (q := 145) dX1_takeToken_144 rfl rfl rfl ?_
            refine g_get (q := 148) dX1_takeToken_145 rfl fl_X1_76.g hR rfl ?_
            refine sm_V2 (q := 151) (M' := mX1_refuse) dX1_takeToken_148 rfl ok_X1_refuse mk_X1_refuse ml_X1_68 ⟨Nat.le_of_ble_eq_true rfl, Nat.le_of_ble_eq_true rfl⟩ rfl (Nat.le_of_ble_eq_true rfl) (g_rv hR rfl) ⟨rfl, rfl⟩ (c_X1_refuse hR) ?_
            intro _ n w h9 _
            obtain ⟨rfl, rfl, hR, hF_⟩ := h9
            replace hF := FrQ.tr hF hF_
            refine st_if_eq (q := 154) (tgt := 158) dX1_takeToken_151 rfl rfl (fun c_151 => ?_) (fun c_151 => False.elim (c_151 rfl))
            refine st_iconst (q := 159) dX1_takeToken_158 rfl ic_0 ?_
            refine st_nreturn dX1_takeToken_159 rfl (by rfl) ?_
            first
              | (have htk : tokF (Tp 0) tl p = .inr (3, f, f + 1, 0) := by rw [tokF, hf, if_pos hlt, if_neg hnl, if_neg hnf, if_pos c_139])
              | (have htk : tokF (Tp 0) tl p = .inl (1, f) := by rw [tokF, hf, if_pos hlt, if_neg hnl, if_neg hnf, if_neg c_139])
            first
              | exact ⟨rfl, hF, by rw [htk]; exact ⟨rfl, _, hR, (nI_succ f).symm, rfl, rfl, (fun z => absurd (show (3 : Nat) = 2 from z) (by decide)), by intro g g3 g4 g5 g6; simp only [tup, g3, g4, g5, g6, if_false]⟩⟩
              | exact ⟨rfl, hF, by rw [htk]; exact ⟨rfl, _, hR, rfl, rfl⟩⟩
        · have hnl : ¬ isL (Tp 0 f) = true := by rw [zI_0.mp c_90]; decide
          refine st_aload_n (q := 112) dX1_takeToken_111 rfl rfl rfl ?_
          refine st_iconst (q := 113) dX1_takeToken_112 rfl ic_2 ?_
          refine r_put (q := 116) dX1_takeToken_113 rfl fl_X1_59 hR rfl rfl rfl (fun w hR hF_ => ?_)
          replace hTp := GR.fr gkX4 hTp (fun k h1 h2 => hF_ k (by omega) (by omega))
          replace hF := FrQ.tr hF hF_
          refine st_aload_n (q := 117) dX1_takeToken_116 rfl rfl rfl ?_
          refine sm_V0 (q := 120) (M' := mX1_takeFigures) dX1_takeToken_117 rfl ok_X1_takeFigures mk_X1_takeFigures ml_X1_158 ⟨Nat.le_of_ble_eq_true rfl, Nat.le_of_ble_eq_true rfl⟩ rfl (Nat.le_of_ble_eq_true rfl) (g_rv hR rfl) ⟨rfl, rfl⟩ (c_X1_takeFigures hR hTp e1 ht (f := f) (by omega) rfl rfl rfl) ?_
          intro v9 n w h9 _
          obtain ⟨rfl, hF_, h9⟩ := h9
          replace hF := FrQ.tr hF hF_
          rcases h9 with ⟨h7, rfl, hR⟩ | ⟨h7, rfl, R9, hR, h10, h11⟩
          · refine st_nreturn dX1_takeToken_120 rfl (by rfl) ?_
            have htk : tokF (Tp 0) tl p = .inr (2, f, (spF isF (Tp 0) (tl - f) f), vlF (Tp 0) f ((spF isF (Tp 0) (tl - f) f) - f)) := by rw [tokF, hf, if_pos hlt, if_neg hnl, if_pos (zI_1.mp c_108), if_pos h7]
            exact ⟨rfl, hF, by rw [htk]; exact ⟨rfl, _, hR, rfl, rfl, rfl, fun _ => rfl, by intro g g3 g4 g5 g6; simp only [tup, g3, g4, g5, g6, if_false]⟩⟩
          · refine st_nreturn dX1_takeToken_120 rfl (by rfl) ?_
            have htk : tokF (Tp 0) tl p = .inl (1, f) := by rw [tokF, hf, if_pos hlt, if_neg hnl, if_pos (zI_1.mp c_108), if_neg (by omega)]
            exact ⟨rfl, hF, by rw [htk]; exact ⟨rfl, R9, hR, h10, h11⟩⟩
      · have htk : tokF (Tp 0) tl p = .inr (1, f, spF isL (Tp 0) (tl - f) f, 0) := by rw [tokF, hf, if_pos hlt, if_pos (zI_1.mp c_90)]
        refine st_aload_n (q := 94) dX1_takeToken_93 rfl rfl rfl ?_
        refine st_iconst (q := 95) dX1_takeToken_94 rfl ic_1 ?_
        refine r_put (q := 98) dX1_takeToken_95 rfl fl_X1_59 hR rfl rfl rfl (fun w hR hF_ => ?_)
        replace hTp := GR.fr gkX4 hTp (fun k h1 h2 => hF_ k (by omega) (by omega))
        replace hF := FrQ.tr hF hF_
        refine st_aload_n (q := 99) dX1_takeToken_98 rfl rfl rfl ?_
        refine sm_V0 (q := 102) (M' := mX1_passLetters) dX1_takeToken_99 rfl ok_X1_passLetters mk_X1_passLetters ml_X1_152 ⟨Nat.le_of_ble_eq_true rfl, Nat.le_of_ble_eq_true rfl⟩ rfl (Nat.le_of_ble_eq_true rfl) (g_rv hR rfl) ⟨rfl, rfl⟩ (c_X1_passLetters hR hTp e1 ht (p := f) (by omega) rfl) ?_
        intro _ n w h9 _
        obtain ⟨rfl, rfl, hR, hF_⟩ := h9
        replace hF := FrQ.tr hF hF_
        refine st_iconst (q := 103) dX1_takeToken_102 rfl ic_1 ?_
        refine st_nreturn dX1_takeToken_103 rfl (by rfl) ?_
        exact ⟨rfl, hF, by rw [htk]; exact ⟨rfl, _, hR, rfl, rfl, rfl, (fun z => absurd (show (1 : Nat) = 2 from z) (by decide)), by intro g g3 g4 g5 g6; simp only [tup, g3, g4, g5, g6, if_false]⟩⟩
    · have hge : ¬ f < tl := fun z => c_63 (by show nI f < Tp 1 0; rw [e1]; exact nI_lt z (by omega))
      have htk : tokF (Tp 0) tl p = .inr (0, f, f, 0) := by rw [tokF, hf, if_neg hge]
      refine st_aload_n (q := 67) dX1_takeToken_66 rfl rfl rfl ?_
      refine st_iconst (q := 68) dX1_takeToken_67 rfl ic_0 ?_
      refine r_put (q := 71) dX1_takeToken_68 rfl fl_X1_59 hR rfl rfl rfl (fun w hR hF_ => ?_)
      replace hTp := GR.fr gkX4 hTp (fun k h1 h2 => hF_ k (by omega) (by omega))
      replace hF := FrQ.tr hF hF_
      refine st_iconst (q := 72) dX1_takeToken_71 rfl ic_1 ?_
      refine st_nreturn dX1_takeToken_72 rfl (by rfl) ?_
      exact ⟨rfl, hF, by rw [htk]; exact ⟨rfl, _, hR, rfl, rfl, rfl, (fun z => absurd (show (0 : Nat) = 2 from z) (by decide)), by intro g g3 g4 g5 g6; simp only [tup, g3, g4, g5, g6, if_false]⟩⟩
  have lp : ∀ (k r : Nat), r + k = tl → spF isS (Tp 0) k r = f → ∀ (w1 : ev_W), RR (tup R 3 0 (nI r)) n w1 → PR Tp 43 n w1 → FrQ w w1 → Ev E mX1_takeToken 0 [some (.ref 42), none] [] n w1 (0, 0) (TQ R (tokF (Tp 0) tl p) n w) := by
    clear hR hTp hF e3
    intro k
    induction k with
    | zero =>
      intro r hr he w hR hTp hF
      obtain rfl : r = f := he
      refine st_aload_n (q := 1) dX1_takeToken_0 rfl rfl rfl ?_
      refine g_get (q := 4) dX1_takeToken_1 rfl fl_X1_32.g hR rfl ?_
      refine st_aload_n (q := 5) dX1_takeToken_4 rfl rfl rfl ?_
      refine g_getO (q := 8) dX1_takeToken_5 rfl fl_X1_12.g hR rfl ?_
      refine g_get (q := 11) dX1_takeToken_8 rfl fl_X1_52.g hTp rfl ?_
      refine st_icmp_ge (q := 14) (tgt := 44) dX1_takeToken_11 rfl rfl (fun c_11 => ?_) (fun c_11 => False.elim (c_11 (by rw [e1]; exact nI_le (a := tl) (b := r) (by omega) (by omega))))
      exact fin w hR hTp hF
    | succ k ih =>
      intro r hr he w hR hTp hF
      refine st_aload_n (q := 1) dX1_takeToken_0 rfl rfl rfl ?_
      refine g_get (q := 4) dX1_takeToken_1 rfl fl_X1_32.g hR rfl ?_
      refine st_aload_n (q := 5) dX1_takeToken_4 rfl rfl rfl ?_
      refine g_getO (q := 8) dX1_takeToken_5 rfl fl_X1_12.g hR rfl ?_
      refine g_get (q := 11) dX1_takeToken_8 rfl fl_X1_52.g hTp rfl ?_
      refine st_icmp_ge (q := 14) (tgt := 44) dX1_takeToken_11 rfl rfl (fun c_11 => False.elim (absurd (by rw [← e1]; exact c_11) (nI_ge (a := r) (b := tl) (by omega) (by omega)))) (fun c_11 => ?_)
      refine st_aload_n (q := 15) dX1_takeToken_14 rfl rfl rfl ?_
      refine g_getO (q := 18) dX1_takeToken_15 rfl fl_X1_12.g hR rfl ?_
      refine g_getA (q := 21) dX1_takeToken_18 rfl fl_X1_145 hTp rfl ?_
      refine st_aload_n (q := 22) dX1_takeToken_21 rfl rfl rfl ?_
      refine g_get (q := 25) dX1_takeToken_22 rfl fl_X1_32.g hR rfl ?_
      refine g_bald (q := 26) dX1_takeToken_25 rfl gkX4 hTp (i := 0) rfl (by show ev_ix (nI r) 160 r; exact ev_ix_nI (by omega) (by decide)) ?_
      refine st_bipush (q := 28) dX1_takeToken_26 rfl bp_32 ?_
      refine st_icmp_ne (q := 31) (tgt := 44) dX1_takeToken_28 rfl rfl (fun c_28 => ?_) (fun c_28 => ?_)
      · obtain rfl : r = f := by rw [← he, spF, if_neg (by rw [isS, decide_eq_true_eq]; exact c_28)]
        exact fin w hR hTp hF
      · refine st_aload_n (q := 32) dX1_takeToken_31 rfl rfl rfl ?_
        refine st_dup (q := 33) dX1_takeToken_32 rfl rfl ?_
        refine g_get (q := 36) dX1_takeToken_33 rfl fl_X1_32.g hR rfl ?_
        refine st_iconst (q := 37) dX1_takeToken_36 rfl ic_1 ?_
        refine st_iadd (q := 38) dX1_takeToken_37 rfl ?_
        refine r_put (q := 41) dX1_takeToken_38 rfl fl_X1_32 hR rfl rfl rfl (fun w hR hF_ => ?_)
        replace hTp := GR.fr gkX4 hTp (fun k h1 h2 => hF_ k (by omega) (by omega))
        replace hF := FrQ.tr hF hF_
        refine st_goto (q := 0) dX1_takeToken_41 rfl ?_
        replace hR : RR (tup R 3 0 (nI (r + 1))) n w := by rw [nI_succ, ← tup_tup]; exact hR
        exact ih (r + 1) (by omega) (by rw [← he, spF, if_pos (show isS (Tp 0 r) = true from decide_eq_true c_28)]) w hR hTp hF
  exact lp (tl - p) p (by omega) hf w (by rw [tup_id e3]; exact hR) hTp hF
