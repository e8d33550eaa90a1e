def TXR (S : gT) (f : Nat → Int32) (t : (Nat × Nat) ⊕ (Nat × PSt)) (a : Option Value) (n : Nat) (u : ev_W) : Prop := match t with
  | .inl e => a = some (.int (-10 - nI e.2)) ∧ ∃ S', MR S' f 70 n u ∧ S' 10 0 = 0 ∧ S' 11 0 = nI e.1 ∧ ∀ g, g < 3 ∨ g = 9 ∨ 17 < g → S' g = S g
  | .inr x => a = some (.int (nI x.1)) ∧ ∃ S' f', MR S' f' 70 n u ∧ RQ x.2.2.1 f' 0 x.2.2.2.1 x.2.2.2.2.1 0 ∧ S' 1 0 = nI x.2.2.2.1 ∧ S' 2 0 = nI x.2.2.2.2.1 ∧ S' 10 0 = 0 ∧ S' 11 0 = 0 ∧ S' 22 0 = 0 ∧ S' 24 0 = 0 ∧ S' 24 1 = 0 ∧ ∀ g, g = 9 ∨ (17 < g ∧ g ≠ 22 ∧ g ≠ 24) → S' g = S g
def zpM (S : gT) : Nat → gT
  | 0 => S
  | i + 1 => tup (zpM S i) 3 i 0
theorem zpM_n {S : gT} {g : Nat} (h : g ≠ 3) : ∀ i, zpM S i g = S g
  | 0 => rfl
  | i + 1 => by rw [zpM, tup_n h, zpM_n h i]
theorem zpM_at {S : gT} {k : Nat} : ∀ i, k < i → zpM S i 3 k = 0
  | 0, h => absurd h (Nat.not_lt_zero k)
  | i + 1, h => by
    rw [zpM, tup_s]
    by_cases e : k = i
    · subst e; rw [pk_us]
    · rw [pk_un e]; exact zpM_at i (by omega)
def cpR (f g : Nat → Int32) : Nat → (Nat → Int32)
  | 0 => f
  | i + 1 => upd (cpR f g i) i (g i)
theorem cpR_in {f g : Nat → Int32} {k : Nat} : ∀ i, k < i → cpR f g i k = g k
  | 0, h => absurd h (Nat.not_lt_zero k)
  | i + 1, h => by
    rw [cpR]
    by_cases e : k = i
    · subst e; rw [pk_us]
    · rw [pk_un e]; exact cpR_in i (by omega)
set_option maxRecDepth 100000 in
set_option maxHeartbeats 4000000 in
theorem c_X7_text {E : ev_E} {n : Nat} {w : ev_W} {S : gT} {f : Nat → Int32} {w0 : ev_W} (hF : Fr 70 82 w0 w) (hM : MR S f 70 n w) {b : Nat → Int32} {tl : Nat} (hK : KX S b tl) (hE : EL S) {D : gT} : Ct E mX7_text [.ref 70] n w (fun a u v => u = n ∧ TXR S f (textF b tl (tl + 1) 0 (s0 D)) a n v ∧ Fr 70 82 w0 v) := by
  refine Ct.of 2 (by decide) (Nat.le_of_ble_eq_true rfl) rfl ?_
  obtain ⟨R9, hRz⟩ : ∃ R9, textF b tl (tl + 1) 0 (s0 D) = R9 := ⟨_, rfl⟩
  rw [hRz]
  have flt : ∀ (S3 : gT) (w1 : ev_W) (e : Nat × Nat) (l : Nat) (l2 : Option Value), MR S3 f 70 n w1 → Fr 70 82 w0 w1 → GX S S3 → PT S3 tl (.inl e) → R9 = .inl e → Ev E mX7_text 110 [some (.ref 70), some (.int (nI l)), l2] [] n w1 (0, 0) (fun a u v => u = n ∧ TXR S f R9 a n v ∧ Fr 70 82 w0 v) := by
    clear hM hF
    intro S3 w e l l2 hM hF hG hP hR
    refine st_aload_n (q := 111) dX7_text_110 rfl rfl rfl ?_
    refine st_iconst (q := 112) dX7_text_111 rfl ic_0 ?_
    refine m_put (q := 115) dX7_text_112 rfl fl_X7_50 hM (by decide) rfl rfl rfl (fun w hM hF_ => ?_)
    replace hF := Fr.tr hF hF_
    refine st_aload_n (q := 116) dX7_text_115 rfl rfl rfl ?_
    refine st_aload_n (q := 117) dX7_text_116 rfl rfl rfl ?_
    refine m_get (q := 120) dX7_text_117 rfl fl_X7_54.g hM (by decide) rfl ?_
    refine m_put (q := 123) dX7_text_120 rfl fl_X7_133 hM (by decide) rfl rfl rfl (fun w hM hF_ => ?_)
    replace hF := Fr.tr hF hF_
    refine st_aload_n (q := 124) dX7_text_123 rfl rfl rfl ?_
    refine m_get (q := 127) dX7_text_124 rfl fl_X7_54.g hM (by decide) rfl ?_
    refine st_if_le (q := 130) (tgt := 138) dX7_text_127 rfl rfl (fun c_127 => False.elim (e_nle hP (show S3 12 0 ≤ 0 from c_127))) (fun c_127 => ?_)
    refine st_bipush (q := 132) dX7_text_130 rfl bp_m10 ?_
    refine st_aload_n (q := 133) dX7_text_132 rfl rfl rfl ?_
    refine m_get (q := 136) dX7_text_133 rfl fl_X7_60.g hM (by decide) rfl ?_
    change Ev _ _ _ _ (.int (S3 13 0) :: _) _ _ _ _
    rw [hP.2.1]
    refine st_isub (q := 137) dX7_text_136 rfl ?_
    refine st_ireturn dX7_text_137 rfl ?_
    refine ⟨rfl, ?_, hF⟩
    rw [hR]
    exact ⟨rfl, _, hM, rfl, hP.1, fun g hg => by rw [tup_n (by omega), tup_n (by omega)]; exact hG g (by omega)⟩
  have exb : ∀ (S3 : gT) (w1 : ev_W) (e : Nat × Nat) (l : Nat) (l2 : Option Value), MR S3 f 70 n w1 → Fr 70 82 w0 w1 → GX S S3 → PT S3 tl (.inl e) → R9 = .inl e → Ev E mX7_text 62 [some (.ref 70), some (.int (nI l)), l2] [] n w1 (0, 0) (fun a u v => u = n ∧ TXR S f R9 a n v ∧ Fr 70 82 w0 v) := by
    clear hM hF
    intro S3 w e l l2 hM hF hG hP hR
    refine st_aload_n (q := 63) dX7_text_62 rfl rfl rfl ?_
    refine m_get (q := 66) dX7_text_63 rfl fl_X7_54.g hM (by decide) rfl ?_
    refine st_if_ne (q := 69) (tgt := 86) dX7_text_66 rfl rfl (fun c_66 => ?_) (fun c_66 => False.elim (e_ne hP c_66))
    refine st_aload_n (q := 87) dX7_text_86 rfl rfl rfl ?_
    refine m_get (q := 90) dX7_text_87 rfl fl_X7_54.g hM (by decide) rfl ?_
    refine st_if_ne (q := 93) (tgt := 110) dX7_text_90 rfl rfl (fun c_90 => ?_) (fun c_90 => False.elim (e_ne hP c_90))
    exact flt S3 w e l l2 hM hF hG hP hR
  have suc : ∀ (S3 : gT) (w1 : ev_W) (l : Nat) (l2 : Option Value) (s : PSt), MR S3 f 70 n w1 → Fr 70 82 w0 w1 → GX S S3 → S3 12 0 = 0 → PS9 S3 s.2.1 s.2.2.1 s.2.2.2.1 s.2.2.2.2.1 s.2.2.2.2.2.1 s.2.2.2.2.2.2 → hhT s.2.1 s.2.2.2.1 = true → R9 = .inr (l, s) → Ev E mX7_text 110 [some (.ref 70), some (.int (nI l)), l2] [] n w1 (0, 0) (fun a u v => u = n ∧ TXR S f R9 a n v ∧ Fr 70 82 w0 v) := by
    clear hM hF
    intro S3 w l l2 s hM hF hG h0 hPS hhh hR
    refine st_aload_n (q := 111) dX7_text_110 rfl rfl rfl ?_
    refine st_iconst (q := 112) dX7_text_111 rfl ic_0 ?_
    refine m_put (q := 115) dX7_text_112 rfl fl_X7_50 hM (by decide) rfl rfl rfl (fun w hM hF_ => ?_)
    replace hF := Fr.tr hF hF_
    refine st_aload_n (q := 116) dX7_text_115 rfl rfl rfl ?_
    refine st_aload_n (q := 117) dX7_text_116 rfl rfl rfl ?_
    refine m_get (q := 120) dX7_text_117 rfl fl_X7_54.g hM (by decide) rfl ?_
    refine m_put (q := 123) dX7_text_120 rfl fl_X7_133 hM (by decide) rfl rfl rfl (fun w hM hF_ => ?_)
    replace hF := Fr.tr hF hF_
    refine st_aload_n (q := 124) dX7_text_123 rfl rfl rfl ?_
    refine m_get (q := 127) dX7_text_124 rfl fl_X7_54.g hM (by decide) rfl ?_
    refine st_if_le (q := 130) (tgt := 138) dX7_text_127 rfl rfl (fun c_127 => ?_) (fun c_127 => False.elim (c_127 (show S3 12 0 ≤ 0 from by rw [h0]; decide)))
    refine st_iconst (q := 139) dX7_text_138 rfl ic_0 ?_
    refine st_istore_n (q := 140) (L' := [_, _, _]) dX7_text_139 rfl rfl (Nat.le_of_ble_eq_true rfl) rfl ?_
    have lp2 : ∀ (k i : Nat), i + k = 71 → ∀ (w1 : ev_W), MR (tup (tup S3 10 0 0) 11 0 (S3 12 0)) (cpR f (S3 3) i) 70 n w1 → Fr 70 82 w0 w1 → Ev E mX7_text 140 [some (.ref 70), some (.int (nI l)), some (.int (nI i))] [] n w1 (0, 0) (fun a u v => u = n ∧ TXR S f R9 a n v ∧ Fr 70 82 w0 v) := by
      clear hM hF
      intro k
      induction k with
      | zero =>
        intro i hi w hM hF
        obtain rfl : 71 = i := by omega
        refine st_iload_n (q := 141) dX7_text_140 rfl rfl rfl ?_
        refine st_bipush (q := 143) dX7_text_141 rfl bp_71 ?_
        refine st_icmp_ge (q := 146) (tgt := 164) dX7_text_143 rfl rfl (fun c_143 => ?_) (fun c_143 => False.elim (c_143 (by decide)))
        refine st_aload_n (q := 165) dX7_text_164 rfl rfl rfl ?_
        refine st_aload_n (q := 166) dX7_text_165 rfl rfl rfl ?_
        refine m_get (q := 169) dX7_text_166 rfl fl_X7_101.g hM (by decide) rfl ?_
        change Ev _ _ _ _ (.int (S3 4 0) :: _) _ _ _ _
        rw [hPS.2.1]
        refine m_put (q := 172) dX7_text_169 rfl fl_X7_136 hM (by decide) rfl rfl rfl (fun w hM hF_ => ?_)
        replace hF := Fr.tr hF hF_
        refine st_aload_n (q := 173) dX7_text_172 rfl rfl rfl ?_
        refine st_aload_n (q := 174) dX7_text_173 rfl rfl rfl ?_
        refine m_get (q := 177) dX7_text_174 rfl fl_X7_98.g hM (by decide) rfl ?_
        change Ev _ _ _ _ (.int (S3 5 0) :: _) _ _ _ _
        rw [hPS.2.2.1]
        refine m_put (q := 180) dX7_text_177 rfl fl_X7_139 hM (by decide) rfl rfl rfl (fun w hM hF_ => ?_)
        replace hF := Fr.tr hF hF_
        refine st_aload_n (q := 181) dX7_text_180 rfl rfl rfl ?_
        refine st_iconst (q := 182) dX7_text_181 rfl ic_0 ?_
        refine m_put (q := 185) dX7_text_182 rfl fl_X7_142 hM (by decide) rfl rfl rfl (fun w hM hF_ => ?_)
        replace hF := Fr.tr hF hF_
        refine st_aload_n (q := 186) dX7_text_185 rfl rfl rfl ?_
        refine g_getA (q := 189) dX7_text_186 rfl fl_X7_31.g hM rfl ?_
        refine st_iconst (q := 190) dX7_text_189 rfl ic_0 ?_
        refine st_iconst (q := 191) dX7_text_190 rfl ic_0 ?_
        refine m_zst (q := 192) dX7_text_191 rfl hM (i := 24) (by decide) rfl (by exact ev_ix_nI (j := 0) (by decide) (by decide)) (fun w hM hF_ => ?_)
        replace hF := Fr.tr hF hF_
        refine st_aload_n (q := 193) dX7_text_192 rfl rfl rfl ?_
        refine g_getA (q := 196) dX7_text_193 rfl fl_X7_31.g hM rfl ?_
        refine st_iconst (q := 197) dX7_text_196 rfl ic_1 ?_
        refine st_iconst (q := 198) dX7_text_197 rfl ic_0 ?_
        refine m_zst (q := 199) dX7_text_198 rfl hM (i := 24) (by decide) rfl (by exact ev_ix_nI (j := 1) (by decide) (by decide)) (fun w hM hF_ => ?_)
        replace hF := Fr.tr hF hF_
        refine st_iload_n (q := 200) dX7_text_199 rfl rfl rfl ?_
        refine st_ireturn dX7_text_200 rfl ?_
        refine ⟨rfl, ?_, hF⟩
        rw [hR]
        refine ⟨rfl, _, _, hM, (hPS.1.rq hhh).move (fun k hk => by rw [Nat.zero_add]; exact cpR_in 71 hk), rfl, rfl, rfl, h0, rfl, rfl, rfl, fun g hg => ?_⟩
        rw [tup_n (by omega), tup_n (by omega), tup_n (by omega), tup_n (by omega), tup_n (by omega), tup_n (by omega), tup_n (by omega)]
        exact hG g (by omega)
      | succ k ih =>
        intro i hi w hM hF
        refine st_iload_n (q := 141) dX7_text_140 rfl rfl rfl ?_
        refine st_bipush (q := 143) dX7_text_141 rfl bp_71 ?_
        refine st_icmp_ge (q := 146) (tgt := 164) dX7_text_143 rfl rfl (fun c_143 => False.elim (absurd c_143 (nI_ge (a := i) (b := 71) (by omega) (by omega)))) (fun c_143 => ?_)
        refine st_aload_n (q := 147) dX7_text_146 rfl rfl rfl ?_
        refine g_getA (q := 150) dX7_text_147 rfl fl_X7_7.g hM rfl ?_
        refine st_iload_n (q := 151) dX7_text_150 rfl rfl rfl ?_
        refine st_aload_n (q := 152) dX7_text_151 rfl rfl rfl ?_
        refine g_getA (q := 155) dX7_text_152 rfl fl_X7_13.g hM rfl ?_
        refine st_iload_n (q := 156) dX7_text_155 rfl rfl rfl ?_
        refine m_ald (q := 157) dX7_text_156 rfl hM (i := 3) (by decide) rfl (by exact ev_ix_nI (j := i) (by omega) (by decide)) ?_
        refine m_sst (q := 158) dX7_text_157 rfl hM (by exact ev_ix_nI (j := i) (by omega) (by decide)) (fun w hM hF_ => ?_)
        replace hF := Fr.tr hF hF_
        refine st_iinc (q := 161) (L' := [_, _, _]) dX7_text_158 rfl rfl (nI_succ _).symm (Nat.le_of_ble_eq_true rfl) rfl ?_
        refine st_goto (q := 140) dX7_text_161 rfl ?_
        exact ih (i + 1) (by omega) w hM hF
    exact lp2 71 0 (by omega) w hM hF
  have lp : ∀ (k l : Nat) (s : PSt) (S2 : gT) (w1 : ev_W) (l2 : Option Value), MR S2 f 70 n w1 → Fr 70 82 w0 w1 → GX S S2 → s.1 ≤ tl → tl < s.1 + k → PT S2 tl (tokF b tl s.1) → PS9 S2 s.2.1 s.2.2.1 s.2.2.2.1 s.2.2.2.2.1 s.2.2.2.2.2.1 s.2.2.2.2.2.2 → textF b tl k l s = R9 → Ev E mX7_text 62 [some (.ref 70), some (.int (nI l)), l2] [] n w1 (0, 0) (fun a u v => u = n ∧ TXR S f R9 a n v ∧ Fr 70 82 w0 v) := by
    clear hM hF
    intro k
    induction k with
    | zero => intro l s S2 w l2 hM hF hG hs1 hs2; omega
    | succ k ih =>
      intro l s S2 w l2 hM hF hG hs1 hs2 hP hPS hR
      have hK2 : KX S2 b tl := ⟨by rw [hG 9 (by omega)]; exact hK.1, by rw [hG 10 (by omega)]; exact hK.2.1, hK.2.2⟩
      have hE2 : EL S2 := by unfold EL; rw [hG 18 (by omega), hG 19 (by omega)]; exact hE
      cases hy : tokF b tl s.1 with
      | inl e =>
        rw [hy] at hP
        exact exb S2 w e l l2 hM hF hG hP (by rw [← hR, textF, hy])
      | inr q =>
        rw [hy] at hP
        by_cases hq0 : q.1 = 0
        · refine st_aload_n (q := 63) dX7_text_62 rfl rfl rfl ?_
          refine m_get (q := 66) dX7_text_63 rfl fl_X7_54.g hM (by decide) rfl ?_
          refine st_if_ne (q := 69) (tgt := 86) dX7_text_66 rfl rfl (fun c_66 => False.elim (c_66 hP.1)) (fun c_66 => ?_)
          refine st_aload_n (q := 70) dX7_text_69 rfl rfl rfl ?_
          refine m_get (q := 73) dX7_text_70 rfl fl_X7_63.g hM (by decide) rfl ?_
          refine st_if_eq (q := 76) (tgt := 86) dX7_text_73 rfl rfl (fun c_73 => ?_) (fun c_73 => False.elim (c_73 (by rw [hP.2.2.2.1, hq0]; rfl)))
          refine st_aload_n (q := 87) dX7_text_86 rfl rfl rfl ?_
          refine m_get (q := 90) dX7_text_87 rfl fl_X7_54.g hM (by decide) rfl ?_
          refine st_if_ne (q := 93) (tgt := 110) dX7_text_90 rfl rfl (fun c_90 => False.elim (c_90 hP.1)) (fun c_90 => ?_)
          refine st_aload_n (q := 94) dX7_text_93 rfl rfl rfl ?_
          refine m_get (q := 97) dX7_text_94 rfl fl_X7_95.g hM (by decide) rfl ?_
          refine st_aload_n (q := 98) dX7_text_97 rfl rfl rfl ?_
          refine m_get (q := 101) dX7_text_98 rfl fl_X7_101.g hM (by decide) rfl ?_
          rw [hPS.2.1]
          refine st_icmp_lt (q := 104) (tgt := 110) dX7_text_101 rfl rfl (fun c_101 => ?_) (fun c_101 => ?_)
          · first
              | (have hhh : hhT s.2.1 s.2.2.2.1 = true := (hPS.2.2.2.2.2.2.hh hPS.1.2.2.1 hPS.1.1).mpr c_101
                 exact suc S2 w l l2 s hM hF hG hP.1 hPS hhh (by rw [← hR, textF, hy]; dsimp only; rw [if_pos hq0, if_pos hhh]))
              | (have hhh : ¬ hhT s.2.1 s.2.2.2.1 = true := fun z => c_101 ((hPS.2.2.2.2.2.2.hh hPS.1.2.2.1 hPS.1.1).mp z)
                 have hqt := (tokF_le hs1 hy).2.2.2.2.1 hq0
                 refine flt _ w (6, tl) l l2 hM hF (fun g hg => ?_) ⟨rfl, by rw [← hqt]; exact hP.2.2.1, by simp, by simp⟩ (by rw [← hR, textF, hy]; dsimp only; rw [if_pos hq0, if_neg hhh])
                 rw [tup_n (by omega), tup_n (by omega)]; exact hG g hg)
          · refine st_aload_n (q := 105) dX7_text_104 rfl rfl rfl ?_
            refine st_bipush (q := 107) dX7_text_105 rfl bp_6 ?_
            refine sm_V1 (q := 110) (M' := mX7_fails) dX7_text_107 rfl ok_X7_fails mk_X7_fails ml_X7_84 ⟨Nat.le_of_ble_eq_true rfl, Nat.le_of_ble_eq_true rfl⟩ rfl (Nat.le_of_ble_eq_true rfl) (g_rv hM rfl) ⟨rfl, rfl⟩ (c_X7_fails hF hM hP.1) ?_
            intro _ n w h9 _
            obtain ⟨rfl, rfl, hM, hF⟩ := h9
            first
              | (have hhh : hhT s.2.1 s.2.2.2.1 = true := (hPS.2.2.2.2.2.2.hh hPS.1.2.2.1 hPS.1.1).mpr c_101
                 exact suc S2 w l l2 s hM hF hG hP.1 hPS hhh (by rw [← hR, textF, hy]; dsimp only; rw [if_pos hq0, if_pos hhh]))
              | (have hhh : ¬ hhT s.2.1 s.2.2.2.1 = true := fun z => c_101 ((hPS.2.2.2.2.2.2.hh hPS.1.2.2.1 hPS.1.1).mp z)
                 have hqt := (tokF_le hs1 hy).2.2.2.2.1 hq0
                 refine flt _ w (6, tl) l l2 hM hF (fun g hg => ?_) ⟨rfl, by rw [← hqt]; exact hP.2.2.1, by simp, by simp⟩ (by rw [← hR, textF, hy]; dsimp only; rw [if_pos hq0, if_neg hhh])
                 rw [tup_n (by omega), tup_n (by omega)]; exact hG g hg)
        · refine st_aload_n (q := 63) dX7_text_62 rfl rfl rfl ?_
          refine m_get (q := 66) dX7_text_63 rfl fl_X7_54.g hM (by decide) rfl ?_
          refine st_if_ne (q := 69) (tgt := 86) dX7_text_66 rfl rfl (fun c_66 => False.elim (c_66 hP.1)) (fun c_66 => ?_)
          refine st_aload_n (q := 70) dX7_text_69 rfl rfl rfl ?_
          refine m_get (q := 73) dX7_text_70 rfl fl_X7_63.g hM (by decide) rfl ?_
          refine st_if_eq (q := 76) (tgt := 86) dX7_text_73 rfl rfl (fun c_73 => False.elim (hq0 (nI_z (by have := hP.2.2.2.2.2.2.2; omega) (by rw [← hP.2.2.2.1]; exact c_73)))) (fun c_73 => ?_)
          refine st_aload_n (q := 77) dX7_text_76 rfl rfl rfl ?_
          refine sm_V0 (q := 80) (M' := mX7_readLine) dX7_text_77 rfl ok_X7_readLine mk_X7_readLine ml_X7_130 ⟨Nat.le_of_ble_eq_true rfl, Nat.le_of_ble_eq_true rfl⟩ rfl (Nat.le_of_ble_eq_true rfl) (g_rv hM rfl) ⟨rfl, rfl⟩ (c_X7_readLine hF hM hK2 hE2 hP hPS) ?_
          intro _ n w h9 _
          obtain ⟨S3, rfl, rfl, hM, hL, hG3, hF⟩ := h9
          refine st_iinc (q := 83) (L' := [_, _, _]) dX7_text_80 rfl rfl (nI_succ _).symm (Nat.le_of_ble_eq_true rfl) rfl ?_
          refine st_goto (q := 62) dX7_text_83 rfl ?_
          have hqle := tokF_le hs1 hy
          have hG4 := hG.tr hG3
          cases hl : lineF b tl q s.2.1 s.2.2.1 s.2.2.2.1 s.2.2.2.2.1 s.2.2.2.2.2.1 s.2.2.2.2.2.2 with
          | inl e =>
            rw [hl] at hL
            exact exb S3 w e (l + 1) l2 hM hF hG4 hL (by rw [← hR, textF, hy]; dsimp only; rw [if_neg hq0, hl])
          | inr s9 =>
            rw [hl] at hL
            have hlo := lineF_ok hl hqle.2.2.1 ⟨hPS.1.2.2.1, hPS.1.1, hPS.1.2.2.2.1, hPS.1.2.1⟩
            refine ih (l + 1) s9 S3 w l2 hM hF hG4 hlo.2.1 (by omega) hL.1 hL.2 ?_
            rw [← hR, textF, hy]
            dsimp only
            rw [if_neg hq0, hl]
  have hz : ∀ g, g < 3 ∨ (8 < g ∧ g < 12) ∨ 17 < g → (tup (tup (tup (tup (tup (tup (tup S 12 0 0) 14 0 0) 4 0 0) 5 0 0) 6 0 0) 7 0 0) 8 0 (-1)) g = S g := fun g hg => by rw [tup_n (by omega), tup_n (by omega), tup_n (by omega), tup_n (by omega), tup_n (by omega), tup_n (by omega), tup_n (by omega)]
  have z4 : (tup (tup (tup (tup (tup (tup (tup S 12 0 0) 14 0 0) 4 0 0) 5 0 0) 6 0 0) 7 0 0) 8 0 (-1)) 4 0 = nI 0 := rfl
  have z5 : (tup (tup (tup (tup (tup (tup (tup S 12 0 0) 14 0 0) 4 0 0) 5 0 0) 6 0 0) 7 0 0) 8 0 (-1)) 5 0 = nI 0 := rfl
  have z6 : (tup (tup (tup (tup (tup (tup (tup S 12 0 0) 14 0 0) 4 0 0) 5 0 0) 6 0 0) 7 0 0) 8 0 (-1)) 6 0 = 0 := rfl
  have z7 : (tup (tup (tup (tup (tup (tup (tup S 12 0 0) 14 0 0) 4 0 0) 5 0 0) 6 0 0) 7 0 0) 8 0 (-1)) 7 0 = 0 := rfl
  have z8 : (tup (tup (tup (tup (tup (tup (tup S 12 0 0) 14 0 0) 4 0 0) 5 0 0) 6 0 0) 7 0 0) 8 0 (-1)) 8 0 = -1 := rfl
  have hKz : KX (zpM (tup (tup (tup (tup (tup (tup (tup S 12 0 0) 14 0 0) 4 0 0) 5 0 0) 6 0 0) 7 0 0) 8 0 (-1)) 71) b tl := ⟨by rw [zpM_n (by decide), hz 9 (by omega)]; exact hK.1, by rw [zpM_n (by decide), hz 10 (by omega)]; exact hK.2.1, hK.2.2⟩
  have lp0 : ∀ (k i : Nat), i + k = 71 → ∀ (w1 : ev_W), MR (zpM (tup (tup (tup (tup (tup (tup (tup S 12 0 0) 14 0 0) 4 0 0) 5 0 0) 6 0 0) 7 0 0) 8 0 (-1)) i) f 70 n w1 → Fr 70 82 w0 w1 → Ev E mX7_text 39 [some (.ref 70), some (.int (nI 0)), some (.int (nI i))] [] n w1 (0, 0) (fun a u v => u = n ∧ TXR S f R9 a n v ∧ Fr 70 82 w0 v) := by
    clear hM hF
    intro k
    induction k with
    | zero =>
      intro i hi w hM hF
      obtain rfl : 71 = i := by omega
      refine st_iload_n (q := 40) dX7_text_39 rfl rfl rfl ?_
      refine st_bipush (q := 42) dX7_text_40 rfl bp_71 ?_
      refine st_icmp_ge (q := 45) (tgt := 58) dX7_text_42 rfl rfl (fun c_42 => ?_) (fun c_42 => False.elim (c_42 (by decide)))
      refine st_aload_n (q := 59) dX7_text_58 rfl rfl rfl ?_
      refine sm_V0 (q := 62) (M' := mX7_step) dX7_text_59 rfl ok_X7_step mk_X7_step ml_X7_88 ⟨Nat.le_of_ble_eq_true rfl, Nat.le_of_ble_eq_true rfl⟩ rfl (Nat.le_of_ble_eq_true rfl) (g_rv hM rfl) ⟨rfl, rfl⟩ (c_X7_step hF hM hKz (by rw [zpM_n (by decide)]; rfl) (p := 0) (by rw [zpM_n (by decide)]; rfl) (Nat.zero_le _)) ?_
      intro _ n w h9 _
      obtain ⟨S2, rfl, rfl, hM, hP, hX2, hF⟩ := h9
      refine lp (tl + 1) 0 (s0 D) S2 w _ hM hF (fun g hg => ?_) (Nat.zero_le _) (by show tl < 0 + (tl + 1); omega) hP ?_ hRz
      · rw [hX2 g (by omega), zpM_n (by omega)]; exact hz g hg
      · refine PS9.fx (S := zpM (tup (tup (tup (tup (tup (tup (tup S 12 0 0) 14 0 0) 4 0 0) 5 0 0) 6 0 0) 7 0 0) 8 0 (-1)) 71) ⟨PG.clear (fun k hk => zpM_at 71 hk), by rw [zpM_n (by decide)]; exact z4, by rw [zpM_n (by decide)]; exact z5, ?_, ?_, by rw [zpM_n (by decide)]; exact z7, Or.inl ⟨rfl, by rw [zpM_n (by decide)]; exact z8⟩⟩ hX2
        · rw [zpM_n (by decide), z6, b_0]; simp [s0]
        · rw [zpM_n (by decide), z6, b_0]; simp [s0]
    | succ k ih =>
      intro i hi w hM hF
      refine st_iload_n (q := 40) dX7_text_39 rfl rfl rfl ?_
      refine st_bipush (q := 42) dX7_text_40 rfl bp_71 ?_
      refine st_icmp_ge (q := 45) (tgt := 58) dX7_text_42 rfl rfl (fun c_42 => False.elim (absurd c_42 (nI_ge (a := i) (b := 71) (by omega) (by omega)))) (fun c_42 => ?_)
      refine st_aload_n (q := 46) dX7_text_45 rfl rfl rfl ?_
      refine g_getA (q := 49) dX7_text_46 rfl fl_X7_13.g hM rfl ?_
      refine st_iload_n (q := 50) dX7_text_49 rfl rfl rfl ?_
      refine st_iconst (q := 51) dX7_text_50 rfl ic_0 ?_
      refine m_ast (q := 52) dX7_text_51 rfl hM (i := 3) (by decide) rfl (by exact ev_ix_nI (j := i) (by omega) (by decide)) (fun w hM hF_ => ?_)
      replace hF := Fr.tr hF hF_
      refine st_iinc (q := 55) (L' := [_, _, _]) dX7_text_52 rfl rfl (nI_succ _).symm (Nat.le_of_ble_eq_true rfl) rfl ?_
      refine st_goto (q := 39) dX7_text_55 rfl ?_
      exact ih (i + 1) (by omega) w hM hF
  refine st_aload_n (q := 1) dX7_text_0 rfl rfl rfl ?_
  refine st_iconst (q := 2) dX7_text_1 rfl ic_0 ?_
  refine m_put (q := 5) dX7_text_2 rfl fl_X7_54 hM (by decide) rfl rfl rfl (fun w hM hF_ => ?_)
  replace hF := Fr.tr hF hF_
  refine st_aload_n (q := 6) dX7_text_5 rfl rfl rfl ?_
  refine st_iconst (q := 7) dX7_text_6 rfl ic_0 ?_
  refine m_put (q := 10) dX7_text_7 rfl fl_X7_66 hM (by decide) rfl rfl rfl (fun w hM hF_ => ?_)
  replace hF := Fr.tr hF hF_
  refine st_aload_n (q := 11) dX7_text_10 rfl rfl rfl ?_
  refine st_iconst (q := 12) dX7_text_11 rfl ic_0 ?_
  refine m_put (q := 15) dX7_text_12 rfl fl_X7_101 hM (by decide) rfl rfl rfl (fun w hM hF_ => ?_)
  replace hF := Fr.tr hF hF_
  refine st_aload_n (q := 16) dX7_text_15 rfl rfl rfl ?_
  refine st_iconst (q := 17) dX7_text_16 rfl ic_0 ?_
  refine m_put (q := 20) dX7_text_17 rfl fl_X7_98 hM (by decide) rfl rfl rfl (fun w hM hF_ => ?_)
  replace hF := Fr.tr hF hF_
  refine st_aload_n (q := 21) dX7_text_20 rfl rfl rfl ?_
  refine st_iconst (q := 22) dX7_text_21 rfl ic_0 ?_
  refine m_put (q := 25) dX7_text_22 rfl fl_X7_124 hM (by decide) rfl rfl rfl (fun w hM hF_ => ?_)
  replace hF := Fr.tr hF hF_
  refine st_aload_n (q := 26) dX7_text_25 rfl rfl rfl ?_
  refine st_iconst (q := 27) dX7_text_26 rfl ic_0 ?_
  refine m_put (q := 30) dX7_text_27 rfl fl_X7_106 hM (by decide) rfl rfl rfl (fun w hM hF_ => ?_)
  replace hF := Fr.tr hF hF_
  refine st_aload_n (q := 31) dX7_text_30 rfl rfl rfl ?_
  refine st_iconst (q := 32) dX7_text_31 rfl ic_m1 ?_
  refine m_put (q := 35) dX7_text_32 rfl fl_X7_95 hM (by decide) rfl rfl rfl (fun w hM hF_ => ?_)
  replace hF := Fr.tr hF hF_
  refine st_iconst (q := 36) dX7_text_35 rfl ic_0 ?_
  refine st_istore_n (q := 37) (L' := [_, _, _]) dX7_text_36 rfl rfl (Nat.le_of_ble_eq_true rfl) rfl ?_
  refine st_iconst (q := 38) dX7_text_37 rfl ic_0 ?_
  refine st_istore_n (q := 39) (L' := [_, _, _]) dX7_text_38 rfl rfl (Nat.le_of_ble_eq_true rfl) rfl ?_
  exact lp0 71 0 (by omega) w hM hF
