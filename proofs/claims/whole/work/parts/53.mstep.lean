abbrev TX : Type := (Nat × Nat) ⊕ (Nat × Nat × Nat × Int32)
def PT (S : gT) (tl : Nat) : TX → Prop
  | .inl e => S 12 0 = nI e.1 ∧ S 13 0 = nI e.2 ∧ e.1 ≠ 0 ∧ e.1 ≤ 6
  | .inr q => S 12 0 = 0 ∧ S 14 0 = nI q.2.2.1 ∧ S 15 0 = nI q.2.1 ∧ S 16 0 = nI q.1 ∧ (q.1 = 2 → S 17 0 = q.2.2.2) ∧ q.2.1 ≤ q.2.2.1 ∧ q.2.2.1 ≤ tl ∧ q.1 ≤ 3
def KX (S : gT) (b : Nat → Int32) (tl : Nat) : Prop := S 9 = b ∧ S 10 0 = nI tl ∧ tl ≤ 160 ∧ ∀ k, k < tl → ¬ b k = -4
def FX (S S' : gT) : Prop := ∀ g, g < 12 ∨ 17 < g → S' g = S g
theorem FX.rf {S : gT} : FX S S := fun _ _ => rfl
theorem FX.tr {S S' S'' : gT} (h : FX S S') (h' : FX S' S'') : FX S S'' := fun g hg => (h' g hg).trans (h g hg)
theorem FX.up {S S' : gT} {i j : Nat} {v : Int32} (h : FX S S') (hi : 12 ≤ i ∧ i ≤ 17) : FX S (tup S' i j v) := fun g hg => by rw [tup_n (by omega)]; exact h g hg
theorem KX.fx {S S' : gT} {b : Nat → Int32} {tl : Nat} (h : KX S b tl) (a : FX S S') : KX S' b tl := ⟨by rw [a 9 (by omega)]; exact h.1, by rw [a 10 (by omega)]; exact h.2.1, h.2.2⟩
def btA (b : Nat → Int32) (tl k : Nat) : Int32 := if k < tl then b k else -4
theorem tg {T : gT} {f j g i : Nat} {v : Int32} : tup T f j v g i = if g = f then (if i = j then v else T g i) else T g i := by
  by_cases h : g = f
  · subst h; rw [tup_s, if_pos rfl]
    by_cases e : i = j
    · rw [e, pk_us, if_pos rfl]
    · rw [pk_un e, if_neg e]
  · rw [tup_n h, if_neg h]
set_option maxRecDepth 100000 in
set_option maxHeartbeats 4000000 in
theorem c_X7_byteAt {E : ev_E} {n : Nat} {w : ev_W} {S : gT} {f : Nat → Int32} {w0 : ev_W} (hF : Fr 70 82 w0 w) (hM : MR S f 70 n w) {b : Nat → Int32} {tl : Nat} (hK : KX S b tl) {k : Nat} (hk : k ≤ 1000) : Ct E mX7_byteAt [.ref 70, .int (nI k)] n w (ev_is (some (.int (btA b tl k))) n w) := by
  refine Ct.of 0 (by decide) (Nat.le_of_ble_eq_true rfl) rfl ?_
  have ht := hK.2.2.1
  refine st_iload_n (q := 1) dX7_byteAt_0 rfl rfl rfl ?_
  refine st_aload_n (q := 2) dX7_byteAt_1 rfl rfl rfl ?_
  refine m_get (q := 5) dX7_byteAt_2 rfl fl_X7_50.g hM (by decide) rfl ?_
  rw [hK.2.1]
  refine st_icmp_ge (q := 8) (tgt := 17) dX7_byteAt_5 rfl rfl (fun c_5 => ?_) (fun c_5 => ?_)
  · have hge : ¬ k < tl := fun z => nI_ge z (by omega) c_5
    refine st_bipush (q := 19) dX7_byteAt_17 rfl bp_m4 ?_
    refine st_ireturn dX7_byteAt_19 rfl ?_
    first
      | exact ⟨by rw [btA, if_pos hlt], rfl, rfl⟩
      | exact ⟨by rw [btA, if_neg hge], rfl, rfl⟩
  · have hlt : k < tl := by
      rcases Nat.lt_or_ge k tl with z | z
      · exact z
      · exact absurd (nI_le z (by omega)) c_5
    refine st_aload_n (q := 9) dX7_byteAt_8 rfl rfl rfl ?_
    refine g_getA (q := 12) dX7_byteAt_9 rfl fl_X7_16.g hM rfl ?_
    refine st_iload_n (q := 13) dX7_byteAt_12 rfl rfl rfl ?_
    refine m_ald (q := 14) dX7_byteAt_13 rfl hM (i := 9) (by decide) rfl (by exact ev_ix_nI (j := k) (by omega) (by decide)) ?_
    rw [hK.1]
    refine st_goto (q := 19) dX7_byteAt_14 rfl ?_
    refine st_ireturn dX7_byteAt_19 rfl ?_
    first
      | exact ⟨by rw [btA, if_pos hlt], rfl, rfl⟩
      | exact ⟨by rw [btA, if_neg hge], rfl, rfl⟩
set_option maxRecDepth 100000 in
set_option maxHeartbeats 4000000 in
theorem c_X7_fails {E : ev_E} {n : Nat} {w : ev_W} {S : gT} {f : Nat → Int32} {w0 : ev_W} (hF : Fr 70 82 w0 w) (hM : MR S f 70 n w) (h0 : S 12 0 = 0) {c : Int32} : Ct E mX7_fails [.ref 70, .int c] n w (fun a u v => a = none ∧ u = n ∧ MR (tup (tup S 12 0 c) 13 0 (S 15 0)) f 70 n v ∧ Fr 70 82 w0 v) := by
  refine Ct.of 0 (by decide) (Nat.le_of_ble_eq_true rfl) rfl ?_
  refine st_aload_n (q := 1) dX7_fails_0 rfl rfl rfl ?_
  refine m_get (q := 4) dX7_fails_1 rfl fl_X7_54.g hM (by decide) rfl ?_
  refine st_if_ne (q := 7) (tgt := 20) dX7_fails_4 rfl rfl (fun c_4 => False.elim (c_4 h0)) (fun c_4 => ?_)
  refine st_aload_n (q := 8) dX7_fails_7 rfl rfl rfl ?_
  refine st_iload_n (q := 9) dX7_fails_8 rfl rfl rfl ?_
  refine m_put (q := 12) dX7_fails_9 rfl fl_X7_54 hM (by decide) rfl rfl rfl (fun w hM hF_ => ?_)
  replace hF := Fr.tr hF hF_
  refine st_aload_n (q := 13) dX7_fails_12 rfl rfl rfl ?_
  refine st_aload_n (q := 14) dX7_fails_13 rfl rfl rfl ?_
  refine m_get (q := 17) dX7_fails_14 rfl fl_X7_57.g hM (by decide) rfl ?_
  refine m_put (q := 20) dX7_fails_17 rfl fl_X7_60 hM (by decide) rfl rfl rfl (fun w hM hF_ => ?_)
  replace hF := Fr.tr hF hF_
  refine st_return dX7_fails_20 rfl ?_
  exact ⟨rfl, rfl, hM, hF⟩
set_option maxRecDepth 100000 in
set_option maxHeartbeats 4000000 in
theorem c_X7_step {E : ev_E} {n : Nat} {w : ev_W} {S : gT} {f : Nat → Int32} {w0 : ev_W} (hF : Fr 70 82 w0 w) (hM : MR S f 70 n w) {b : Nat → Int32} {tl : Nat} (hK : KX S b tl) (h0 : S 12 0 = 0) {p : Nat} (h14 : S 14 0 = nI p) (hp : p ≤ tl) : Ct E mX7_step [.ref 70] n w (fun a u v => ∃ S', a = none ∧ u = n ∧ MR S' f 70 n v ∧ PT S' tl (tokF b tl p) ∧ FX S S' ∧ Fr 70 82 w0 v) := by
  refine Ct.of 1 (by decide) (Nat.le_of_ble_eq_true rfl) rfl ?_
  have ht := hK.2.2.1
  have fin : ∀ (i : Nat), i ≤ tl → i = spF isS b (tl - p) p → ∀ (w1 : ev_W), MR (tup S 14 0 (nI i)) f 70 n w1 → Fr 70 82 w0 w1 → Ev E mX7_step 34 [some (.ref 70), none] [] n w1 (0, 0) (fun a u v => ∃ S', a = none ∧ u = n ∧ MR S' f 70 n v ∧ PT S' tl (tokF b tl p) ∧ FX S S' ∧ Fr 70 82 w0 v) := by
    intro i hi hs
    clear hM hF
    have hL : isL (b i) = true → i < tl → ∀ (w2 : ev_W), MR (tup (tup (tup S 14 0 (nI i)) 15 0 (nI i)) 17 0 0) f 70 n w2 → Fr 70 82 w0 w2 → Ev E mX7_step 84 [some (.ref 70), some (.int (btA b tl i))] [] n w2 (0, 0) (fun a u v => ∃ S', a = none ∧ u = n ∧ MR S' f 70 n v ∧ PT S' tl (tokF b tl p) ∧ FX S S' ∧ Fr 70 82 w0 v) := by
      intro hl hil
      obtain ⟨e, hee⟩ : ∃ e, spF isL b (tl - i) i = e := ⟨_, rfl⟩
      have htk : tokF b tl p = .inr (1, i, e, 0) := by rw [tokF, ← hs, if_pos hil, if_pos hl, hee]
      have lpL : ∀ (k r : Nat), r + k = tl → i ≤ r → spF isL b k r = e → ∀ (w3 : ev_W), MR (tup (tup (tup (tup S 14 0 (nI i)) 15 0 (nI i)) 17 0 0) 14 0 (nI r)) f 70 n w3 → Fr 70 82 w0 w3 → Ev E mX7_step 84 [some (.ref 70), some (.int (btA b tl i))] [] n w3 (0, 0) (fun a u v => ∃ S', a = none ∧ u = n ∧ MR S' f 70 n v ∧ PT S' tl (tokF b tl p) ∧ FX S S' ∧ Fr 70 82 w0 v) := by
        intro k
        induction k with
        | zero =>
          intro r hr hir he w hM hF
          obtain rfl : tl = r := by omega
          refine st_aload_n (q := 85) dX7_step_84 rfl rfl rfl ?_
          refine st_aload_n (q := 86) dX7_step_85 rfl rfl rfl ?_
          refine m_get (q := 89) dX7_step_86 rfl fl_X7_66.g hM (by decide) rfl ?_
          refine sp_V1 (q := 92) (M' := mX7_byteAt) dX7_step_89 rfl ok_X7_byteAt mk_X7_byteAt ml_X7_69 ⟨Nat.le_of_ble_eq_true rfl, Nat.le_of_ble_eq_true rfl⟩ rfl (Nat.le_of_ble_eq_true rfl) (g_rv hM rfl) ⟨rfl, rfl⟩ (c_X7_byteAt Fr.rf hM (hK.fx ((((FX.rf.up (by omega)).up (by omega)).up (by omega)).up (by omega))) (k := tl) (by omega)) ?_
          refine st_i2l (q := 93) dX7_step_92 rfl ?_
          refine st_ldc2 (q := 96) dX7_step_93 rfl cn_X7_76 ?_
          refine st_ldc2 (q := 99) dX7_step_96 rfl cn_X7_78 ?_
          refine sp_S3 (q := 102) (M' := mX7_in) dX7_step_99 rfl ok_X7_in mk_X7_in ml_X7_46 ⟨Nat.le_of_ble_eq_true rfl, Nat.le_of_ble_eq_true rfl⟩ rfl (Nat.le_of_ble_eq_true rfl) ⟨rfl, rfl⟩ (c_X7_inI (a := 97) (c := 122) (by decide) (by decide)) ?_
          refine st_if_eq (q := 105) (tgt := 118) dX7_step_102 rfl rfl (fun c_102 => ?_) (fun c_102 => False.elim (absurd (zI_1.mp c_102) (by rw [btA, if_neg (Nat.lt_irrefl tl)]; decide)))
          refine st_aload_n (q := 119) dX7_step_118 rfl rfl rfl ?_
          refine st_iconst (q := 120) dX7_step_119 rfl ic_1 ?_
          refine m_put (q := 123) dX7_step_120 rfl fl_X7_63 hM (by decide) rfl rfl rfl (fun w hM hF_ => ?_)
          replace hF := Fr.tr hF hF_
          refine st_goto (q := 269) dX7_step_123 rfl ?_
          refine st_return dX7_step_269 rfl ?_
          have he2 : tl = e := he
          exact ⟨_, rfl, rfl, hM, by rw [htk, ← he2]; exact ⟨h0, rfl, rfl, rfl, fun z => by simp at z, by show i ≤ tl; omega, by show tl ≤ tl; omega, by simp⟩, (((((FX.rf.up (by omega)).up (by omega)).up (by omega)).up (by omega)).up (by omega)), hF⟩
        | succ k ihL =>
          intro r hr hir he w hM hF
          refine st_aload_n (q := 85) dX7_step_84 rfl rfl rfl ?_
          refine st_aload_n (q := 86) dX7_step_85 rfl rfl rfl ?_
          refine m_get (q := 89) dX7_step_86 rfl fl_X7_66.g hM (by decide) rfl ?_
          refine sp_V1 (q := 92) (M' := mX7_byteAt) dX7_step_89 rfl ok_X7_byteAt mk_X7_byteAt ml_X7_69 ⟨Nat.le_of_ble_eq_true rfl, Nat.le_of_ble_eq_true rfl⟩ rfl (Nat.le_of_ble_eq_true rfl) (g_rv hM rfl) ⟨rfl, rfl⟩ (c_X7_byteAt Fr.rf hM (hK.fx ((((FX.rf.up (by omega)).up (by omega)).up (by omega)).up (by omega))) (k := r) (by omega)) ?_
          refine st_i2l (q := 93) dX7_step_92 rfl ?_
          refine st_ldc2 (q := 96) dX7_step_93 rfl cn_X7_76 ?_
          refine st_ldc2 (q := 99) dX7_step_96 rfl cn_X7_78 ?_
          refine sp_S3 (q := 102) (M' := mX7_in) dX7_step_99 rfl ok_X7_in mk_X7_in ml_X7_46 ⟨Nat.le_of_ble_eq_true rfl, Nat.le_of_ble_eq_true rfl⟩ rfl (Nat.le_of_ble_eq_true rfl) ⟨rfl, rfl⟩ (c_X7_inI (a := 97) (c := 122) (by decide) (by decide)) ?_
          refine st_if_eq (q := 105) (tgt := 118) dX7_step_102 rfl rfl (fun c_102 => ?_) (fun c_102 => ?_)
          · refine st_aload_n (q := 119) dX7_step_118 rfl rfl rfl ?_
            refine st_iconst (q := 120) dX7_step_119 rfl ic_1 ?_
            refine m_put (q := 123) dX7_step_120 rfl fl_X7_63 hM (by decide) rfl rfl rfl (fun w hM hF_ => ?_)
            replace hF := Fr.tr hF hF_
            refine st_goto (q := 269) dX7_step_123 rfl ?_
            refine st_return dX7_step_269 rfl ?_
            have hb : ¬ isL (b r) = true := by have := zI_0.mp c_102; rw [btA, if_pos (by omega)] at this; unfold isL; rw [this]; decide
            have he2 : r = e := by rw [← he, spF, if_neg hb]
            exact ⟨_, rfl, rfl, hM, by rw [htk, ← he2]; exact ⟨h0, rfl, rfl, rfl, fun z => by simp at z, by show i ≤ r; omega, by show r ≤ tl; omega, by simp⟩, (((((FX.rf.up (by omega)).up (by omega)).up (by omega)).up (by omega)).up (by omega)), hF⟩
          · refine st_aload_n (q := 106) dX7_step_105 rfl rfl rfl ?_
            refine st_dup (q := 107) dX7_step_106 rfl rfl ?_
            refine m_get (q := 110) dX7_step_107 rfl fl_X7_66.g hM (by decide) rfl ?_
            refine st_iconst (q := 111) dX7_step_110 rfl ic_1 ?_
            refine st_iadd (q := 112) dX7_step_111 rfl ?_
            refine m_put (q := 115) dX7_step_112 rfl fl_X7_66 hM (by decide) rfl rfl rfl (fun w hM hF_ => ?_)
            replace hF := Fr.tr hF hF_
            refine st_goto (q := 84) dX7_step_115 rfl ?_
            have hb : isL (b r) = true := by have := zI_1.mp c_102; rw [btA, if_pos (by omega)] at this; exact this
            refine ihL (r + 1) (by omega) (by omega) ?_ w ?_ hF
            · rw [← he, spF, if_pos hb]
            · rw [tup_tup] at hM; rw [nI_succ]; exact hM
      intro w2 hM2 hF2
      refine lpL (tl - i) i (by omega) (Nat.le_refl _) hee w2 ?_ hF2
      rw [tup_id (T := (tup (tup (tup S 14 0 (nI i)) 15 0 (nI i)) 17 0 0)) (i := 14) (j := 0) (v := nI i) rfl]
      exact hM2
    have hFg : ¬ isL (b i) = true → isF (b i) = true → i < tl → ∀ (w2 : ev_W), MR (tup (tup (tup S 14 0 (nI i)) 15 0 (nI i)) 17 0 0) f 70 n w2 → Fr 70 82 w0 w2 → Ev E mX7_step 140 [some (.ref 70), some (.int (btA b tl i))] [] n w2 (0, 0) (fun a u v => ∃ S', a = none ∧ u = n ∧ MR S' f 70 n v ∧ PT S' tl (tokF b tl p) ∧ FX S S' ∧ Fr 70 82 w0 v) := by
      intro hnl hl hil
      obtain ⟨e, hee⟩ : ∃ e, spF isF b (tl - i) i = e := ⟨_, rfl⟩
      have fxe : ∀ {B9 : gT} {r : Nat} {v v' : Int32} {w9 : ev_W}, MR (tup (tup (tup (tup B9 14 0 (nI r)) 17 0 v) 17 0 v') 14 0 (nI r + 1)) f 70 n w9 → MR (tup (tup B9 14 0 (nI r + 1)) 17 0 v') f 70 n w9 := by
        intro B9 r v v' w9 h9
        rw [tup_tup, tup_swap (i := 17) (k := 14) (by decide), tup_tup] at h9
        exact h9
      have lpF : ∀ (k r : Nat), r + k = tl → i ≤ r → spF isF b k r = e → ∀ (w3 : ev_W), MR (tup (tup (tup (tup (tup S 14 0 (nI i)) 15 0 (nI i)) 17 0 0) 14 0 (nI r)) 17 0 (vlF b i (if r - i ≤ 2 then r - i else 2))) f 70 n w3 → Fr 70 82 w0 w3 → Ev E mX7_step 140 [some (.ref 70), some (.int (btA b tl i))] [] n w3 (0, 0) (fun a u v => ∃ S', a = none ∧ u = n ∧ MR S' f 70 n v ∧ PT S' tl (tokF b tl p) ∧ FX S S' ∧ Fr 70 82 w0 v) := by
        intro k
        induction k with
        | zero =>
          intro r hr hir he w hM hF
          obtain rfl : tl = r := by omega
          have he9 : tl = e := he
          refine st_aload_n (q := 141) dX7_step_140 rfl rfl rfl ?_
          refine st_aload_n (q := 142) dX7_step_141 rfl rfl rfl ?_
          refine m_get (q := 145) dX7_step_142 rfl fl_X7_66.g hM (by decide) rfl ?_
          refine sp_V1 (q := 148) (M' := mX7_byteAt) dX7_step_145 rfl ok_X7_byteAt mk_X7_byteAt ml_X7_69 ⟨Nat.le_of_ble_eq_true rfl, Nat.le_of_ble_eq_true rfl⟩ rfl (Nat.le_of_ble_eq_true rfl) (g_rv hM rfl) ⟨rfl, rfl⟩ (c_X7_byteAt Fr.rf hM (hK.fx (((((FX.rf.up (by omega)).up (by omega)).up (by omega)).up (by omega)).up (by omega))) (k := tl) (by omega)) ?_
          refine st_i2l (q := 149) dX7_step_148 rfl ?_
          refine st_ldc2 (q := 152) dX7_step_149 rfl cn_X7_80 ?_
          refine st_ldc2 (q := 155) dX7_step_152 rfl cn_X7_82 ?_
          refine sp_S3 (q := 158) (M' := mX7_in) dX7_step_155 rfl ok_X7_in mk_X7_in ml_X7_46 ⟨Nat.le_of_ble_eq_true rfl, Nat.le_of_ble_eq_true rfl⟩ rfl (Nat.le_of_ble_eq_true rfl) ⟨rfl, rfl⟩ (c_X7_inI (a := 48) (c := 57) (by decide) (by decide)) ?_
          refine st_if_eq (q := 161) (tgt := 217) dX7_step_158 rfl rfl (fun c_158 => ?_) (fun c_158 => False.elim (absurd (zI_1.mp c_158) (by rw [btA, if_neg (Nat.lt_irrefl tl)]; decide)))
          have htk : tokF b tl p = (if tl ≤ i + 2 then .inr (2, i, tl, vlF b i (tl - i)) else .inl (1, i)) := by rw [tokF, ← hs, if_pos hil, if_neg hnl, if_pos hl, hee, ← he9]
          refine st_aload_n (q := 218) dX7_step_217 rfl rfl rfl ?_
          refine st_iconst (q := 219) dX7_step_218 rfl ic_2 ?_
          refine m_put (q := 222) dX7_step_219 rfl fl_X7_63 hM (by decide) rfl rfl rfl (fun w hM hF_ => ?_)
          replace hF := Fr.tr hF hF_
          refine st_aload_n (q := 223) dX7_step_222 rfl rfl rfl ?_
          refine m_get (q := 226) dX7_step_223 rfl fl_X7_66.g hM (by decide) rfl ?_
          refine st_aload_n (q := 227) dX7_step_226 rfl rfl rfl ?_
          refine m_get (q := 230) dX7_step_227 rfl fl_X7_57.g hM (by decide) rfl ?_
          refine st_isub (q := 231) dX7_step_230 rfl ?_
          refine st_iconst (q := 232) dX7_step_231 rfl ic_2 ?_
          refine st_icmp_le (q := 235) (tgt := 269) dX7_step_232 rfl rfl (fun c_232 => ?_) (fun c_232 => ?_)
          · refine st_return dX7_step_269 rfl ?_
            first
              | (have hle : tl ≤ i + 2 := by
                   have c9 : nI tl - nI i ≤ nI 2 := c_232
                   rw [nI_sb (by omega)] at c9
                   have := (nI_leiff (by omega) (by decide)).mp c9
                   omega
                 refine ⟨_, rfl, rfl, hM, ?_, ((((((FX.rf.up (by omega)).up (by omega)).up (by omega)).up (by omega)).up (by omega)).up (by omega)), hF⟩
                 rw [htk, if_pos hle]
                 refine ⟨h0, rfl, rfl, rfl, fun _ => ?_, by show i ≤ tl; omega, by show tl ≤ tl; omega, by simp⟩
                 show vlF b i (if tl - i ≤ 2 then tl - i else 2) = vlF b i (tl - i)
                 rw [if_pos (by omega)])
              | (have hle : ¬ tl ≤ i + 2 := fun z => c_232 (by
                   show nI tl - nI i ≤ nI 2
                   rw [nI_sb (by omega)]
                   exact (nI_leiff (by omega) (by decide)).mpr (by omega))
                 refine ⟨_, rfl, rfl, hM, ?_, ((((((((FX.rf.up (by omega)).up (by omega)).up (by omega)).up (by omega)).up (by omega)).up (by omega)).up (by omega)).up (by omega)), hF⟩
                 rw [htk, if_neg hle]
                 exact ⟨rfl, rfl, by simp, by simp⟩)
          · refine st_aload_n (q := 236) dX7_step_235 rfl rfl rfl ?_
            refine st_iconst (q := 237) dX7_step_236 rfl ic_1 ?_
            refine sm_V1 (q := 240) (M' := mX7_fails) dX7_step_237 rfl ok_X7_fails mk_X7_fails ml_X7_84 ⟨Nat.le_of_ble_eq_true rfl, Nat.le_of_ble_eq_true rfl⟩ rfl (Nat.le_of_ble_eq_true rfl) (g_rv hM rfl) ⟨rfl, rfl⟩ (c_X7_fails Fr.rf hM h0) ?_
            intro _ n w h9 _
            obtain ⟨rfl, rfl, hM, hF_⟩ := h9
            replace hF := Fr.tr hF hF_
            refine st_goto (q := 269) dX7_step_240 rfl ?_
            refine st_return dX7_step_269 rfl ?_
            first
              | (have hle : tl ≤ i + 2 := by
                   have c9 : nI tl - nI i ≤ nI 2 := c_232
                   rw [nI_sb (by omega)] at c9
                   have := (nI_leiff (by omega) (by decide)).mp c9
                   omega
                 refine ⟨_, rfl, rfl, hM, ?_, ((((((FX.rf.up (by omega)).up (by omega)).up (by omega)).up (by omega)).up (by omega)).up (by omega)), hF⟩
                 rw [htk, if_pos hle]
                 refine ⟨h0, rfl, rfl, rfl, fun _ => ?_, by show i ≤ tl; omega, by show tl ≤ tl; omega, by simp⟩
                 show vlF b i (if tl - i ≤ 2 then tl - i else 2) = vlF b i (tl - i)
                 rw [if_pos (by omega)])
              | (have hle : ¬ tl ≤ i + 2 := fun z => c_232 (by
                   show nI tl - nI i ≤ nI 2
                   rw [nI_sb (by omega)]
                   exact (nI_leiff (by omega) (by decide)).mpr (by omega))
                 refine ⟨_, rfl, rfl, hM, ?_, ((((((((FX.rf.up (by omega)).up (by omega)).up (by omega)).up (by omega)).up (by omega)).up (by omega)).up (by omega)).up (by omega)), hF⟩
                 rw [htk, if_neg hle]
                 exact ⟨rfl, rfl, by simp, by simp⟩)
        | succ k ihF =>
          intro r hr hir he w hM hF
          refine st_aload_n (q := 141) dX7_step_140 rfl rfl rfl ?_
          refine st_aload_n (q := 142) dX7_step_141 rfl rfl rfl ?_
          refine m_get (q := 145) dX7_step_142 rfl fl_X7_66.g hM (by decide) rfl ?_
          refine sp_V1 (q := 148) (M' := mX7_byteAt) dX7_step_145 rfl ok_X7_byteAt mk_X7_byteAt ml_X7_69 ⟨Nat.le_of_ble_eq_true rfl, Nat.le_of_ble_eq_true rfl⟩ rfl (Nat.le_of_ble_eq_true rfl) (g_rv hM rfl) ⟨rfl, rfl⟩ (c_X7_byteAt Fr.rf hM (hK.fx (((((FX.rf.up (by omega)).up (by omega)).up (by omega)).up (by omega)).up (by omega))) (k := r) (by omega)) ?_
          refine st_i2l (q := 149) dX7_step_148 rfl ?_
          refine st_ldc2 (q := 152) dX7_step_149 rfl cn_X7_80 ?_
          refine st_ldc2 (q := 155) dX7_step_152 rfl cn_X7_82 ?_
          refine sp_S3 (q := 158) (M' := mX7_in) dX7_step_155 rfl ok_X7_in mk_X7_in ml_X7_46 ⟨Nat.le_of_ble_eq_true rfl, Nat.le_of_ble_eq_true rfl⟩ rfl (Nat.le_of_ble_eq_true rfl) ⟨rfl, rfl⟩ (c_X7_inI (a := 48) (c := 57) (by decide) (by decide)) ?_
          refine st_if_eq (q := 161) (tgt := 217) dX7_step_158 rfl rfl (fun c_158 => ?_) (fun c_158 => ?_)
          · have hb : ¬ isF (b r) = true := by have := zI_0.mp c_158; rw [btA, if_pos (by omega)] at this; unfold isF; rw [this]; decide
            have he9 : e = r := by rw [← he, spF, if_neg hb]
            have htk : tokF b tl p = (if r ≤ i + 2 then .inr (2, i, r, vlF b i (r - i)) else .inl (1, i)) := by rw [tokF, ← hs, if_pos hil, if_neg hnl, if_pos hl, hee, he9]
            refine st_aload_n (q := 218) dX7_step_217 rfl rfl rfl ?_
            refine st_iconst (q := 219) dX7_step_218 rfl ic_2 ?_
            refine m_put (q := 222) dX7_step_219 rfl fl_X7_63 hM (by decide) rfl rfl rfl (fun w hM hF_ => ?_)
            replace hF := Fr.tr hF hF_
            refine st_aload_n (q := 223) dX7_step_222 rfl rfl rfl ?_
            refine m_get (q := 226) dX7_step_223 rfl fl_X7_66.g hM (by decide) rfl ?_
            refine st_aload_n (q := 227) dX7_step_226 rfl rfl rfl ?_
            refine m_get (q := 230) dX7_step_227 rfl fl_X7_57.g hM (by decide) rfl ?_
            refine st_isub (q := 231) dX7_step_230 rfl ?_
            refine st_iconst (q := 232) dX7_step_231 rfl ic_2 ?_
            refine st_icmp_le (q := 235) (tgt := 269) dX7_step_232 rfl rfl (fun c_232 => ?_) (fun c_232 => ?_)
            · refine st_return dX7_step_269 rfl ?_
              first
                | (have hle : r ≤ i + 2 := by
                     have c9 : nI r - nI i ≤ nI 2 := c_232
                     rw [nI_sb (by omega)] at c9
                     have := (nI_leiff (by omega) (by decide)).mp c9
                     omega
                   refine ⟨_, rfl, rfl, hM, ?_, ((((((FX.rf.up (by omega)).up (by omega)).up (by omega)).up (by omega)).up (by omega)).up (by omega)), hF⟩
                   rw [htk, if_pos hle]
                   refine ⟨h0, rfl, rfl, rfl, fun _ => ?_, by show i ≤ r; omega, by show r ≤ tl; omega, by simp⟩
                   show vlF b i (if r - i ≤ 2 then r - i else 2) = vlF b i (r - i)
                   rw [if_pos (by omega)])
                | (have hle : ¬ r ≤ i + 2 := fun z => c_232 (by
                     show nI r - nI i ≤ nI 2
                     rw [nI_sb (by omega)]
                     exact (nI_leiff (by omega) (by decide)).mpr (by omega))
                   refine ⟨_, rfl, rfl, hM, ?_, ((((((((FX.rf.up (by omega)).up (by omega)).up (by omega)).up (by omega)).up (by omega)).up (by omega)).up (by omega)).up (by omega)), hF⟩
                   rw [htk, if_neg hle]
                   exact ⟨rfl, rfl, by simp, by simp⟩)
            · refine st_aload_n (q := 236) dX7_step_235 rfl rfl rfl ?_
              refine st_iconst (q := 237) dX7_step_236 rfl ic_1 ?_
              refine sm_V1 (q := 240) (M' := mX7_fails) dX7_step_237 rfl ok_X7_fails mk_X7_fails ml_X7_84 ⟨Nat.le_of_ble_eq_true rfl, Nat.le_of_ble_eq_true rfl⟩ rfl (Nat.le_of_ble_eq_true rfl) (g_rv hM rfl) ⟨rfl, rfl⟩ (c_X7_fails Fr.rf hM h0) ?_
              intro _ n w h9 _
              obtain ⟨rfl, rfl, hM, hF_⟩ := h9
              replace hF := Fr.tr hF hF_
              refine st_goto (q := 269) dX7_step_240 rfl ?_
              refine st_return dX7_step_269 rfl ?_
              first
                | (have hle : r ≤ i + 2 := by
                     have c9 : nI r - nI i ≤ nI 2 := c_232
                     rw [nI_sb (by omega)] at c9
                     have := (nI_leiff (by omega) (by decide)).mp c9
                     omega
                   refine ⟨_, rfl, rfl, hM, ?_, ((((((FX.rf.up (by omega)).up (by omega)).up (by omega)).up (by omega)).up (by omega)).up (by omega)), hF⟩
                   rw [htk, if_pos hle]
                   refine ⟨h0, rfl, rfl, rfl, fun _ => ?_, by show i ≤ r; omega, by show r ≤ tl; omega, by simp⟩
                   show vlF b i (if r - i ≤ 2 then r - i else 2) = vlF b i (r - i)
                   rw [if_pos (by omega)])
                | (have hle : ¬ r ≤ i + 2 := fun z => c_232 (by
                     show nI r - nI i ≤ nI 2
                     rw [nI_sb (by omega)]
                     exact (nI_leiff (by omega) (by decide)).mpr (by omega))
                   refine ⟨_, rfl, rfl, hM, ?_, ((((((((FX.rf.up (by omega)).up (by omega)).up (by omega)).up (by omega)).up (by omega)).up (by omega)).up (by omega)).up (by omega)), hF⟩
                   rw [htk, if_neg hle]
                   exact ⟨rfl, rfl, by simp, by simp⟩)
          · have hb : isF (b r) = true := by have := zI_1.mp c_158; rw [btA, if_pos (by omega)] at this; exact this
            refine st_aload_n (q := 162) dX7_step_161 rfl rfl rfl ?_
            refine st_aload_n (q := 163) dX7_step_162 rfl rfl rfl ?_
            refine m_get (q := 166) dX7_step_163 rfl fl_X7_66.g hM (by decide) rfl ?_
            refine st_aload_n (q := 167) dX7_step_166 rfl rfl rfl ?_
            refine m_get (q := 170) dX7_step_167 rfl fl_X7_57.g hM (by decide) rfl ?_
            refine st_isub (q := 171) dX7_step_170 rfl ?_
            refine st_iconst (q := 172) dX7_step_171 rfl ic_2 ?_
            refine st_icmp_ge (q := 175) (tgt := 197) dX7_step_172 rfl rfl (fun c_172 => ?_) (fun c_172 => ?_)
            · refine st_aload_n (q := 198) dX7_step_197 rfl rfl rfl ?_
              refine m_get (q := 201) dX7_step_198 rfl fl_X7_73.g hM (by decide) rfl ?_
              refine m_put (q := 204) dX7_step_201 rfl fl_X7_73 hM (by decide) rfl rfl rfl (fun w hM hF_ => ?_)
              replace hF := Fr.tr hF hF_
              refine st_aload_n (q := 205) dX7_step_204 rfl rfl rfl ?_
              refine st_dup (q := 206) dX7_step_205 rfl rfl ?_
              refine m_get (q := 209) dX7_step_206 rfl fl_X7_66.g hM (by decide) rfl ?_
              refine st_iconst (q := 210) dX7_step_209 rfl ic_1 ?_
              refine st_iadd (q := 211) dX7_step_210 rfl ?_
              refine m_put (q := 214) dX7_step_211 rfl fl_X7_66 hM (by decide) rfl rfl rfl (fun w hM hF_ => ?_)
              replace hF := Fr.tr hF hF_
              refine st_goto (q := 140) dX7_step_214 rfl ?_
              refine ihF (r + 1) (by omega) (by omega) (by rw [← he, spF, if_pos hb]) w ?_ hF
              first
                | (have hlt : r - i < 2 := by
                     rcases Nat.lt_or_ge (r - i) 2 with z | z
                     · exact z
                     · exact absurd (show nI 2 ≤ nI r - nI i from by rw [nI_sb (by omega)]; exact (nI_leiff (by decide) (by omega)).mpr z) c_172
                   have ev : (10 : Int32) * vlF b i (if r - i ≤ 2 then r - i else 2) + btA b tl r - 48 = vlF b i (if r + 1 - i ≤ 2 then r + 1 - i else 2) := by
                     rw [if_pos (by omega), if_pos (by omega), show r + 1 - i = r - i + 1 from by omega, vlF, show i + (r - i) = r from by omega, btA, if_pos (by omega), Int32.mul_comm]
                   rw [← ev, nI_succ]
                   exact fxe hM)
                | (have hlt : ¬ r - i < 2 := fun z => absurd (show nI 2 ≤ nI r - nI i from c_172) (by rw [nI_sb (by omega)]; exact nI_ge z (by decide))
                   rw [if_neg (by omega), nI_succ]
                   have hM' := fxe hM
                   rw [show vlF b i (if r - i ≤ 2 then r - i else 2) = vlF b i 2 from by
                     by_cases z : r - i ≤ 2
                     · rw [if_pos z, show r - i = 2 from by omega]
                     · rw [if_neg z]] at hM'
                   exact hM')
            · refine st_bipush (q := 177) dX7_step_175 rfl bp_10 ?_
              refine st_aload_n (q := 178) dX7_step_177 rfl rfl rfl ?_
              refine m_get (q := 181) dX7_step_178 rfl fl_X7_73.g hM (by decide) rfl ?_
              refine st_imul (q := 182) dX7_step_181 rfl ?_
              refine st_aload_n (q := 183) dX7_step_182 rfl rfl rfl ?_
              refine st_aload_n (q := 184) dX7_step_183 rfl rfl rfl ?_
              refine m_get (q := 187) dX7_step_184 rfl fl_X7_66.g hM (by decide) rfl ?_
              refine sp_V1 (q := 190) (M' := mX7_byteAt) dX7_step_187 rfl ok_X7_byteAt mk_X7_byteAt ml_X7_69 ⟨Nat.le_of_ble_eq_true rfl, Nat.le_of_ble_eq_true rfl⟩ rfl (Nat.le_of_ble_eq_true rfl) (g_rv hM rfl) ⟨rfl, rfl⟩ (c_X7_byteAt Fr.rf hM (hK.fx (((((FX.rf.up (by omega)).up (by omega)).up (by omega)).up (by omega)).up (by omega))) (k := r) (by omega)) ?_
              refine st_iadd (q := 191) dX7_step_190 rfl ?_
              refine st_bipush (q := 193) dX7_step_191 rfl bp_48 ?_
              refine st_isub (q := 194) dX7_step_193 rfl ?_
              refine st_goto (q := 201) dX7_step_194 rfl ?_
              refine m_put (q := 204) dX7_step_201 rfl fl_X7_73 hM (by decide) rfl rfl rfl (fun w hM hF_ => ?_)
              replace hF := Fr.tr hF hF_
              refine st_aload_n (q := 205) dX7_step_204 rfl rfl rfl ?_
              refine st_dup (q := 206) dX7_step_205 rfl rfl ?_
              refine m_get (q := 209) dX7_step_206 rfl fl_X7_66.g hM (by decide) rfl ?_
              refine st_iconst (q := 210) dX7_step_209 rfl ic_1 ?_
              refine st_iadd (q := 211) dX7_step_210 rfl ?_
              refine m_put (q := 214) dX7_step_211 rfl fl_X7_66 hM (by decide) rfl rfl rfl (fun w hM hF_ => ?_)
              replace hF := Fr.tr hF hF_
              refine st_goto (q := 140) dX7_step_214 rfl ?_
              refine ihF (r + 1) (by omega) (by omega) (by rw [← he, spF, if_pos hb]) w ?_ hF
              first
                | (have hlt : r - i < 2 := by
                     rcases Nat.lt_or_ge (r - i) 2 with z | z
                     · exact z
                     · exact absurd (show nI 2 ≤ nI r - nI i from by rw [nI_sb (by omega)]; exact (nI_leiff (by decide) (by omega)).mpr z) c_172
                   have ev : (10 : Int32) * vlF b i (if r - i ≤ 2 then r - i else 2) + btA b tl r - 48 = vlF b i (if r + 1 - i ≤ 2 then r + 1 - i else 2) := by
                     rw [if_pos (by omega), if_pos (by omega), show r + 1 - i = r - i + 1 from by omega, vlF, show i + (r - i) = r from by omega, btA, if_pos (by omega), Int32.mul_comm]
                   rw [← ev, nI_succ]
                   exact fxe hM)
                | (have hlt : ¬ r - i < 2 := fun z => absurd (show nI 2 ≤ nI r - nI i from c_172) (by rw [nI_sb (by omega)]; exact nI_ge z (by decide))
                   rw [if_neg (by omega), nI_succ]
                   have hM' := fxe hM
                   rw [show vlF b i (if r - i ≤ 2 then r - i else 2) = vlF b i 2 from by
                     by_cases z : r - i ≤ 2
                     · rw [if_pos z, show r - i = 2 from by omega]
                     · rw [if_neg z]] at hM'
                   exact hM')
      intro w2 hM2 hF2
      refine lpF (tl - i) i (by omega) (Nat.le_refl _) hee w2 ?_ hF2
      rw [if_pos (by omega), Nat.sub_self, tup_id (T := (tup (tup (tup S 14 0 (nI i)) 15 0 (nI i)) 17 0 0)) (i := 14) (j := 0) (v := nI i) rfl, tup_id (T := (tup (tup (tup S 14 0 (nI i)) 15 0 (nI i)) 17 0 0)) (i := 17) (j := 0) (v := vlF b i 0) rfl]
      exact hM2
    intro w hM hF
    refine st_aload_n (q := 35) dX7_step_34 rfl rfl rfl ?_
    refine st_aload_n (q := 36) dX7_step_35 rfl rfl rfl ?_
    refine m_get (q := 39) dX7_step_36 rfl fl_X7_66.g hM (by decide) rfl ?_
    refine m_put (q := 42) dX7_step_39 rfl fl_X7_57 hM (by decide) rfl rfl rfl (fun w hM hF_ => ?_)
    replace hF := Fr.tr hF hF_
    refine st_aload_n (q := 43) dX7_step_42 rfl rfl rfl ?_
    refine st_aload_n (q := 44) dX7_step_43 rfl rfl rfl ?_
    refine m_get (q := 47) dX7_step_44 rfl fl_X7_66.g hM (by decide) rfl ?_
    refine sp_V1 (q := 50) (M' := mX7_byteAt) dX7_step_47 rfl ok_X7_byteAt mk_X7_byteAt ml_X7_69 ⟨Nat.le_of_ble_eq_true rfl, Nat.le_of_ble_eq_true rfl⟩ rfl (Nat.le_of_ble_eq_true rfl) (g_rv hM rfl) ⟨rfl, rfl⟩ (c_X7_byteAt Fr.rf hM (hK.fx ((FX.rf.up (by omega)).up (by omega))) (k := i) (by omega)) ?_
    skip
    refine st_istore_n (q := 51) (L' := [_, _]) dX7_step_50 rfl rfl (Nat.le_of_ble_eq_true rfl) rfl ?_
    refine st_aload_n (q := 52) dX7_step_51 rfl rfl rfl ?_
    refine st_iconst (q := 53) dX7_step_52 rfl ic_0 ?_
    refine m_put (q := 56) dX7_step_53 rfl fl_X7_73 hM (by decide) rfl rfl rfl (fun w hM hF_ => ?_)
    replace hF := Fr.tr hF hF_
    refine st_iload_n (q := 57) dX7_step_56 rfl rfl rfl ?_
    refine st_bipush (q := 59) dX7_step_57 rfl bp_m4 ?_
    refine st_icmp_ne (q := 62) (tgt := 70) dX7_step_59 rfl rfl (fun c_59 => ?_) (fun c_59 => ?_)
    · have hil : i < tl := by
        rcases Nat.lt_or_ge i tl with z | z
        · exact z
        · exact absurd (show btA b tl i = -4 from if_neg (by omega)) c_59
      have hbi : btA b tl i = b i := if_pos hil
      refine st_iload_n (q := 71) dX7_step_70 rfl rfl rfl ?_
      refine st_i2l (q := 72) dX7_step_71 rfl ?_
      refine st_ldc2 (q := 75) dX7_step_72 rfl cn_X7_76 ?_
      refine st_ldc2 (q := 78) dX7_step_75 rfl cn_X7_78 ?_
      refine sp_S3 (q := 81) (M' := mX7_in) dX7_step_78 rfl ok_X7_in mk_X7_in ml_X7_46 ⟨Nat.le_of_ble_eq_true rfl, Nat.le_of_ble_eq_true rfl⟩ rfl (Nat.le_of_ble_eq_true rfl) ⟨rfl, rfl⟩ (c_X7_inI (a := 97) (c := 122) (by decide) (by decide)) ?_
      refine st_if_eq (q := 84) (tgt := 126) dX7_step_81 rfl rfl (fun c_81 => ?_) (fun c_81 => ?_)
      · refine st_iload_n (q := 127) dX7_step_126 rfl rfl rfl ?_
        refine st_i2l (q := 128) dX7_step_127 rfl ?_
        refine st_ldc2 (q := 131) dX7_step_128 rfl cn_X7_80 ?_
        refine st_ldc2 (q := 134) dX7_step_131 rfl cn_X7_82 ?_
        refine sp_S3 (q := 137) (M' := mX7_in) dX7_step_134 rfl ok_X7_in mk_X7_in ml_X7_46 ⟨Nat.le_of_ble_eq_true rfl, Nat.le_of_ble_eq_true rfl⟩ rfl (Nat.le_of_ble_eq_true rfl) ⟨rfl, rfl⟩ (c_X7_inI (a := 48) (c := 57) (by decide) (by decide)) ?_
        refine st_if_eq (q := 140) (tgt := 243) dX7_step_137 rfl rfl (fun c_137 => ?_) (fun c_137 => ?_)
        · refine st_aload_n (q := 244) dX7_step_243 rfl rfl rfl ?_
          refine st_iconst (q := 245) dX7_step_244 rfl ic_3 ?_
          refine m_put (q := 248) dX7_step_245 rfl fl_X7_63 hM (by decide) rfl rfl rfl (fun w hM hF_ => ?_)
          replace hF := Fr.tr hF hF_
          refine st_aload_n (q := 249) dX7_step_248 rfl rfl rfl ?_
          refine st_dup (q := 250) dX7_step_249 rfl rfl ?_
          refine m_get (q := 253) dX7_step_250 rfl fl_X7_66.g hM (by decide) rfl ?_
          refine st_iconst (q := 254) dX7_step_253 rfl ic_1 ?_
          refine st_iadd (q := 255) dX7_step_254 rfl ?_
          refine m_put (q := 258) dX7_step_255 rfl fl_X7_66 hM (by decide) rfl rfl rfl (fun w hM hF_ => ?_)
          replace hF := Fr.tr hF hF_
          refine st_iload_n (q := 259) dX7_step_258 rfl rfl rfl ?_
          refine st_bipush (q := 261) dX7_step_259 rfl bp_59 ?_
          refine st_icmp_eq (q := 264) (tgt := 269) dX7_step_261 rfl rfl (fun c_261 => ?_) (fun c_261 => ?_)
          · refine st_return dX7_step_269 rfl ?_
            first
              | (refine ⟨_, rfl, rfl, hM, ?_, ((((FX.rf.up (by omega)).up (by omega)).up (by omega)).up (by omega)), hF⟩
                 rw [tokF, ← hs, if_neg hnl]
                 exact ⟨h0, rfl, rfl, rfl, fun z => by simp at z, Nat.le_refl _, hi, by simp⟩)
              | (have hnl : ¬ isL (b i) = true := by have := zI_0.mp c_81; rw [hbi] at this; unfold isL; rw [this]; decide
                 have hnf : ¬ isF (b i) = true := by have := zI_0.mp c_137; rw [hbi] at this; unfold isF; rw [this]; decide
                 have c9 : b i = 59 := by rw [← hbi]; exact c_261
                 refine ⟨_, rfl, rfl, hM, ?_, (((((FX.rf.up (by omega)).up (by omega)).up (by omega)).up (by omega)).up (by omega)), hF⟩
                 rw [tokF, ← hs, if_pos hil, if_neg hnl, if_neg hnf, if_pos c9]
                 exact ⟨h0, (nI_succ i).symm, rfl, rfl, fun z => by simp at z, Nat.le_succ _, hil, by simp⟩)
              | (have hnl : ¬ isL (b i) = true := by have := zI_0.mp c_81; rw [hbi] at this; unfold isL; rw [this]; decide
                 have hnf : ¬ isF (b i) = true := by have := zI_0.mp c_137; rw [hbi] at this; unfold isF; rw [this]; decide
                 have c9 : ¬ b i = 59 := by rw [← hbi]; exact c_261
                 refine ⟨_, rfl, rfl, hM, ?_, (((((((FX.rf.up (by omega)).up (by omega)).up (by omega)).up (by omega)).up (by omega)).up (by omega)).up (by omega)), hF⟩
                 rw [tokF, ← hs, if_pos hil, if_neg hnl, if_neg hnf, if_neg c9]
                 exact ⟨rfl, rfl, by simp, by simp⟩)
          · refine st_aload_n (q := 265) dX7_step_264 rfl rfl rfl ?_
            refine st_iconst (q := 266) dX7_step_265 rfl ic_1 ?_
            refine sm_V1 (q := 269) (M' := mX7_fails) dX7_step_266 rfl ok_X7_fails mk_X7_fails ml_X7_84 ⟨Nat.le_of_ble_eq_true rfl, Nat.le_of_ble_eq_true rfl⟩ rfl (Nat.le_of_ble_eq_true rfl) (g_rv hM rfl) ⟨rfl, rfl⟩ (c_X7_fails Fr.rf hM h0) ?_
            intro _ n w h9 _
            obtain ⟨rfl, rfl, hM, hF_⟩ := h9
            replace hF := Fr.tr hF hF_
            refine st_return dX7_step_269 rfl ?_
            first
              | (refine ⟨_, rfl, rfl, hM, ?_, ((((FX.rf.up (by omega)).up (by omega)).up (by omega)).up (by omega)), hF⟩
                 rw [tokF, ← hs, if_neg hnl]
                 exact ⟨h0, rfl, rfl, rfl, fun z => by simp at z, Nat.le_refl _, hi, by simp⟩)
              | (have hnl : ¬ isL (b i) = true := by have := zI_0.mp c_81; rw [hbi] at this; unfold isL; rw [this]; decide
                 have hnf : ¬ isF (b i) = true := by have := zI_0.mp c_137; rw [hbi] at this; unfold isF; rw [this]; decide
                 have c9 : b i = 59 := by rw [← hbi]; exact c_261
                 refine ⟨_, rfl, rfl, hM, ?_, (((((FX.rf.up (by omega)).up (by omega)).up (by omega)).up (by omega)).up (by omega)), hF⟩
                 rw [tokF, ← hs, if_pos hil, if_neg hnl, if_neg hnf, if_pos c9]
                 exact ⟨h0, (nI_succ i).symm, rfl, rfl, fun z => by simp at z, Nat.le_succ _, hil, by simp⟩)
              | (have hnl : ¬ isL (b i) = true := by have := zI_0.mp c_81; rw [hbi] at this; unfold isL; rw [this]; decide
                 have hnf : ¬ isF (b i) = true := by have := zI_0.mp c_137; rw [hbi] at this; unfold isF; rw [this]; decide
                 have c9 : ¬ b i = 59 := by rw [← hbi]; exact c_261
                 refine ⟨_, rfl, rfl, hM, ?_, (((((((FX.rf.up (by omega)).up (by omega)).up (by omega)).up (by omega)).up (by omega)).up (by omega)).up (by omega)), hF⟩
                 rw [tokF, ← hs, if_pos hil, if_neg hnl, if_neg hnf, if_neg c9]
                 exact ⟨rfl, rfl, by simp, by simp⟩)
        · exact hFg (by have := zI_0.mp c_81; rw [hbi] at this; unfold isL; rw [this]; decide) (by have := zI_1.mp c_137; rw [hbi] at this; exact this) hil w hM hF
      · exact hL (by have := zI_1.mp c_81; rw [hbi] at this; exact this) hil w hM hF
    · have hnl : ¬ i < tl := fun z => hK.2.2.2 i z (by have := c_59; rw [btA, if_pos z] at this; exact this)
      refine st_aload_n (q := 63) dX7_step_62 rfl rfl rfl ?_
      refine st_iconst (q := 64) dX7_step_63 rfl ic_0 ?_
      refine m_put (q := 67) dX7_step_64 rfl fl_X7_63 hM (by decide) rfl rfl rfl (fun w hM hF_ => ?_)
      replace hF := Fr.tr hF hF_
      refine st_goto (q := 269) dX7_step_67 rfl ?_
      refine st_return dX7_step_269 rfl ?_
      first
        | (refine ⟨_, rfl, rfl, hM, ?_, ((((FX.rf.up (by omega)).up (by omega)).up (by omega)).up (by omega)), hF⟩
           rw [tokF, ← hs, if_neg hnl]
           exact ⟨h0, rfl, rfl, rfl, fun z => by simp at z, Nat.le_refl _, hi, by simp⟩)
        | (have hnl : ¬ isL (b i) = true := by have := zI_0.mp c_81; rw [hbi] at this; unfold isL; rw [this]; decide
           have hnf : ¬ isF (b i) = true := by have := zI_0.mp c_137; rw [hbi] at this; unfold isF; rw [this]; decide
           have c9 : b i = 59 := by rw [← hbi]; exact c_261
           refine ⟨_, rfl, rfl, hM, ?_, (((((FX.rf.up (by omega)).up (by omega)).up (by omega)).up (by omega)).up (by omega)), hF⟩
           rw [tokF, ← hs, if_pos hil, if_neg hnl, if_neg hnf, if_pos c9]
           exact ⟨h0, (nI_succ i).symm, rfl, rfl, fun z => by simp at z, Nat.le_succ _, hil, by simp⟩)
        | (have hnl : ¬ isL (b i) = true := by have := zI_0.mp c_81; rw [hbi] at this; unfold isL; rw [this]; decide
           have hnf : ¬ isF (b i) = true := by have := zI_0.mp c_137; rw [hbi] at this; unfold isF; rw [this]; decide
           have c9 : ¬ b i = 59 := by rw [← hbi]; exact c_261
           refine ⟨_, rfl, rfl, hM, ?_, (((((((FX.rf.up (by omega)).up (by omega)).up (by omega)).up (by omega)).up (by omega)).up (by omega)).up (by omega)), hF⟩
           rw [tokF, ← hs, if_pos hil, if_neg hnl, if_neg hnf, if_neg c9]
           exact ⟨rfl, rfl, by simp, by simp⟩)
  have lp : ∀ (k i : Nat), i + k = tl → spF isS b k i = spF isS b (tl - p) p → ∀ (w1 : ev_W), MR (tup S 14 0 (nI i)) f 70 n w1 → Fr 70 82 w0 w1 → Ev E mX7_step 8 [some (.ref 70), none] [] n w1 (0, 0) (fun a u v => ∃ S', a = none ∧ u = n ∧ MR S' f 70 n v ∧ PT S' tl (tokF b tl p) ∧ FX S S' ∧ Fr 70 82 w0 v) := by
    clear hM hF
    intro k
    induction k with
    | zero =>
      intro i hi hs w hM hF
      obtain rfl : tl = i := by omega
      refine st_aload_n (q := 9) dX7_step_8 rfl rfl rfl ?_
      refine st_aload_n (q := 10) dX7_step_9 rfl rfl rfl ?_
      refine m_get (q := 13) dX7_step_10 rfl fl_X7_66.g hM (by decide) rfl ?_
      refine sp_V1 (q := 16) (M' := mX7_byteAt) dX7_step_13 rfl ok_X7_byteAt mk_X7_byteAt ml_X7_69 ⟨Nat.le_of_ble_eq_true rfl, Nat.le_of_ble_eq_true rfl⟩ rfl (Nat.le_of_ble_eq_true rfl) (g_rv hM rfl) ⟨rfl, rfl⟩ (c_X7_byteAt Fr.rf hM (hK.fx (FX.rf.up (by omega))) (k := tl) (by omega)) ?_
      refine st_bipush (q := 18) dX7_step_16 rfl bp_32 ?_
      refine st_icmp_ne (q := 21) (tgt := 34) dX7_step_18 rfl rfl (fun c_18 => ?_) (fun c_18 => False.elim (absurd c_18 (by rw [btA, if_neg (Nat.lt_irrefl tl)]; decide)))
      exact fin tl (Nat.le_refl _) hs w hM hF
    | succ k ih =>
      intro i hi hs w hM hF
      refine st_aload_n (q := 9) dX7_step_8 rfl rfl rfl ?_
      refine st_aload_n (q := 10) dX7_step_9 rfl rfl rfl ?_
      refine m_get (q := 13) dX7_step_10 rfl fl_X7_66.g hM (by decide) rfl ?_
      refine sp_V1 (q := 16) (M' := mX7_byteAt) dX7_step_13 rfl ok_X7_byteAt mk_X7_byteAt ml_X7_69 ⟨Nat.le_of_ble_eq_true rfl, Nat.le_of_ble_eq_true rfl⟩ rfl (Nat.le_of_ble_eq_true rfl) (g_rv hM rfl) ⟨rfl, rfl⟩ (c_X7_byteAt Fr.rf hM (hK.fx (FX.rf.up (by omega))) (k := i) (by omega)) ?_
      refine st_bipush (q := 18) dX7_step_16 rfl bp_32 ?_
      refine st_icmp_ne (q := 21) (tgt := 34) dX7_step_18 rfl rfl (fun c_18 => ?_) (fun c_18 => ?_)
      · have hb : ¬ isS (b i) = true := fun z => c_18 (by rw [btA, if_pos (by omega)]; exact of_decide_eq_true z)
        refine fin i (by omega) ?_ w hM hF
        rw [← hs, spF, if_neg hb]
      · refine st_aload_n (q := 22) dX7_step_21 rfl rfl rfl ?_
        refine st_dup (q := 23) dX7_step_22 rfl rfl ?_
        refine m_get (q := 26) dX7_step_23 rfl fl_X7_66.g hM (by decide) rfl ?_
        refine st_iconst (q := 27) dX7_step_26 rfl ic_1 ?_
        refine st_iadd (q := 28) dX7_step_27 rfl ?_
        refine m_put (q := 31) dX7_step_28 rfl fl_X7_66 hM (by decide) rfl rfl rfl (fun w hM hF_ => ?_)
        replace hF := Fr.tr hF hF_
        refine st_goto (q := 8) dX7_step_31 rfl ?_
        have hb : isS (b i) = true := decide_eq_true (by have := c_18; rw [btA, if_pos (by omega)] at this; exact this)
        refine ih (i + 1) (by omega) ?_ w ?_ hF
        · rw [← hs, spF, if_pos hb]
        · rw [tup_tup] at hM; rw [nI_succ]; exact hM
  refine st_aload_n (q := 1) dX7_step_0 rfl rfl rfl ?_
  refine m_get (q := 4) dX7_step_1 rfl fl_X7_54.g hM (by decide) rfl ?_
  refine st_if_le (q := 7) (tgt := 8) dX7_step_4 rfl rfl (fun c_4 => ?_) (fun c_4 => False.elim (c_4 (by rw [h0]; decide)))
  refine lp (tl - p) p (by omega) rfl w ?_ hF
  rw [tup_id h14]
  exact hM
