def PS9 (S D : gT) (nh nt : Nat) (wt lt dy : Int32) : Prop := PG (S 3) D nh nt ∧ S 4 0 = nI nh ∧ S 5 0 = nI nt ∧ (bt (S 6 0) 6 = true ↔ ¬ wt = 0) ∧ (bt (S 6 0) 7 = true ↔ ¬ lt = 0) ∧ S 7 0 = dy ∧ TP (S 8 0) D nt
theorem PS9.fx {S S' D : gT} {nh nt : Nat} {wt lt dy : Int32} (h : PS9 S D nh nt wt lt dy) (a : FX S S') : PS9 S' D nh nt wt lt dy := by
  unfold PS9
  rw [a 3 (by omega), a 4 (by omega), a 5 (by omega), a 6 (by omega), a 7 (by omega), a 8 (by omega)]
  exact h
def GX (S S' : gT) : Prop := ∀ g, g < 3 ∨ (8 < g ∧ g < 12) ∨ 17 < g → S' g = S g
theorem FX.gx {S S' : gT} (h : FX S S') : GX S S' := fun g hg => h g (by omega)
theorem GX.tr {S S' S'' : gT} (h : GX S S') (h' : GX S' S'') : GX S S'' := fun g hg => (h' g hg).trans (h g hg)
theorem GX.t6 {S : gT} {v : Int32} : GX S (tup S 6 0 v) := fun g hg => tup_n (by omega)
def LNR (b : Nat → Int32) (tl : Nat) (S : gT) : (Nat × Nat) ⊕ PSt → Prop
  | .inl e => PT S tl (.inl e)
  | .inr s => PT S tl (tokF b tl s.1) ∧ PS9 S s.2.1 s.2.2.1 s.2.2.2.1 s.2.2.2.2.1 s.2.2.2.2.2.1 s.2.2.2.2.2.2
theorem xw_e {wd : Nat} {dy : Int32} {e : Nat × Nat} : xw wd dy (.inl e) = .inl e := by unfold xw; split <;> rfl
theorem PS9.more {S S2 S3 D : gT} {nh nt wd : Nat} {wt lt dy : Int32} {v : List Int32} (h : PS9 S D nh nt wt lt dy) (hx : FX (tup S 6 0 (S 6 0 ||| 1 <<< (nI wd &&& 31))) S2) (hr : RM S2 S3 nh nt wd v) (hw : wd < 8) (h4 : wd = 4 → nh < 4) (h8 : wd < 4 → nt < 8) (hv : ∀ j, j < (moL wd).length → inI (v.getD j 0) ((leL wd).getD j 0) ((moL wd).getD j 0) = true) : PS9 S3 (tlT D nh nt wd (v.getD 0 0) (v.getD 1 0) (v.getD 2 0)) (if wd = 4 then nh + 1 else nh) (if wd < 4 then nt + 1 else nt) (if wd = 6 then 1 else wt) (if wd = 7 then 1 else lt) (if wd = 5 then dy ||| 1 <<< (v.getD 0 0 &&& 31) else dy) := by
  obtain ⟨r3, r4, r5, r6, r7, r8, -⟩ := hr
  obtain ⟨p1, p2, p3, p4, p5, p6, p7⟩ := h
  have e3 : S2 3 = S 3 := by rw [hx 3 (by omega), tup_n (by decide)]
  have e7 : S2 7 = S 7 := by rw [hx 7 (by omega), tup_n (by decide)]
  have e8 : S2 8 = S 8 := by rw [hx 8 (by omega), tup_n (by decide)]
  have e6 : S2 6 0 = S 6 0 ||| 1 <<< (nI wd &&& 31) := by rw [hx 6 (by omega), tup_s, pk_us]
  refine ⟨?_, r4, r5, ?_, ?_, ?_, ?_⟩
  · rw [r3, e3]; exact p1.tell hw h4 h8 hv
  · rw [r6, e6, b_or, bt_shl1 (by omega) (by decide)]
    by_cases z : wd = 6
    · subst z; simp
    · rw [if_neg z, ← p4]
      have : ¬ 6 = wd := fun q => z q.symm
      simp [this]
  · rw [r6, e6, b_or, bt_shl1 (by omega) (by decide)]
    by_cases z : wd = 7
    · subst z; simp
    · rw [if_neg z, ← p5]
      have : ¬ 7 = wd := fun q => z q.symm
      simp [this]
  · rw [r7, e7, p6]
  · rw [r8, e8]
    match wd, hw, hv with
    | 0, _, hv => exact p7.add (hv 0 (by decide)) rfl
    | 1, _, hv => exact p7.add (hv 0 (by decide)) rfl
    | 2, _, hv => exact p7.add (hv 0 (by decide)) rfl
    | 3, _, hv => exact p7.add (hv 0 (by decide)) rfl
    | 4, _, _ => exact p7.same rfl
    | 5, _, _ => exact p7.same rfl
    | 6, _, _ => exact p7.same rfl
    | 7, _, _ => exact p7.same rfl
set_option maxRecDepth 100000 in
set_option maxHeartbeats 4000000 in
theorem c_X7_readLine {E : ev_E} {n : Nat} {w : ev_W} {S : gT} {f : Nat → Int32} {w0 : ev_W} (hF : Fr 70 82 w0 w) (hM : MR S f 70 n w) {b : Nat → Int32} {tl : Nat} (hK : KX S b tl) (hE : EL S) {q : Nat × Nat × Nat × Int32} (hT : PT S tl (.inr q)) {D : gT} {nh nt : Nat} {wt lt dy : Int32} (hPS : PS9 S D nh nt wt lt dy) : Ct E mX7_readLine [.ref 70] n w (fun a u v => ∃ S', a = none ∧ u = n ∧ MR S' f 70 n v ∧ LNR b tl S' (lineF b tl q D nh nt wt lt dy) ∧ GX S S' ∧ Fr 70 82 w0 v) := by
  refine Ct.of 1 (by decide) (Nat.le_of_ble_eq_true rfl) rfl ?_
  have h0 : S 12 0 = 0 := hT.1
  have h15 : S 15 0 = nI q.2.1 := hT.2.2.1
  have hq2t : q.2.2.1 ≤ tl := hT.2.2.2.2.2.2.1
  have hnh4 := hPS.1.1
  have hnt8 := hPS.1.2.1
  have h4 := hPS.2.1
  have h5 := hPS.2.2.1
  by_cases hw : q.1 = 1 ∧ wdF b q.2.1 q.2.2.1 0 8 < 8
  · obtain ⟨wd, hwd⟩ : ∃ wd, wd = wdF b q.2.1 q.2.2.1 0 8 := ⟨_, rfl⟩
    have hw9 := hw
    rw [← hwd] at hw
    have hnm : nmA b q = nI wd := by rw [nmA, if_pos hw.1, ← hwd, if_pos hw.2]
    have hlf : lineF b tl q D nh nt wt lt dy = if mbF wd wt lt nh nt = 0 then lineE b tl D nh nt wt lt dy wd (nmF b tl wd dy (moL wd).length 0 q.2.2.1) else .inl (mbF wd wt lt nh nt, q.2.1) := by rw [lineF, ← hwd, if_pos hw]
    have hin7 : inI (nI wd) 0 7 = true := by
      unfold inI
      rw [Bool.and_eq_true, decide_eq_true_eq, decide_eq_true_eq]
      exact ⟨nI_le (a := 0) (by omega) (by omega), nI_le (b := 7) (by omega) (by decide)⟩
    have brk : ∀ (S1 : gT) (w1 : ev_W) (c : Nat), MR S1 f 70 n w1 → Fr 70 82 w0 w1 → FX S S1 → PT S1 tl (.inl (c, q.2.1)) → lineF b tl q D nh nt wt lt dy = .inl (c, q.2.1) → Ev E mX7_readLine 78 [some (.ref 70), some (.int (nI wd))] [] n w1 (0, 0) (fun a u v => ∃ S', a = none ∧ u = n ∧ MR S' f 70 n v ∧ LNR b tl S' (lineF b tl q D nh nt wt lt dy) ∧ GX S S' ∧ Fr 70 82 w0 v) := by
      clear hM hF
      intro S1 w c hM hF hX1 hP1 hlc
      refine st_aload_n (q := 79) dX7_readLine_78 rfl rfl rfl ?_
      refine st_dup (q := 80) dX7_readLine_79 rfl rfl ?_
      refine m_get (q := 83) dX7_readLine_80 rfl fl_X7_124.g hM (by decide) rfl ?_
      refine st_iconst (q := 84) dX7_readLine_83 rfl ic_1 ?_
      refine st_iload_n (q := 85) dX7_readLine_84 rfl rfl rfl ?_
      refine st_ishl (q := 86) dX7_readLine_85 rfl ?_
      refine st_ior (q := 87) dX7_readLine_86 rfl ?_
      refine m_put (q := 90) dX7_readLine_87 rfl fl_X7_124 hM (by decide) rfl rfl rfl (fun w hM hF_ => ?_)
      replace hF := Fr.tr hF hF_
      refine st_aload_n (q := 91) dX7_readLine_90 rfl rfl rfl ?_
      refine sm_V0 (q := 94) (M' := mX7_step) dX7_readLine_91 rfl ok_X7_step mk_X7_step ml_X7_88 ⟨Nat.le_of_ble_eq_true rfl, Nat.le_of_ble_eq_true rfl⟩ rfl (Nat.le_of_ble_eq_true rfl) (g_rv hM rfl) ⟨rfl, rfl⟩ (c_X7_stepX hF hM ((hK.fx hX1).up (by omega)) (hP1.up (by omega))) ?_
      intro _ n w h9 _
      obtain ⟨S2, rfl, rfl, hM, hP2, hX2, hF⟩ := h9
      refine st_aload_n (q := 95) dX7_readLine_94 rfl rfl rfl ?_
      refine m_get (q := 98) dX7_readLine_95 rfl fl_X7_54.g hM (by decide) rfl ?_
      refine st_if_le (q := 101) (tgt := 102) dX7_readLine_98 rfl rfl (fun c_98 => False.elim (e_nle (tl := tl) (e := (c, q.2.1)) hP2 c_98)) (fun c_98 => ?_)
      refine st_return dX7_readLine_101 rfl ?_
      exact ⟨S2, rfl, rfl, hM, by rw [hlc]; exact hP2, (hX1.gx.tr GX.t6).tr hX2.gx, hF⟩
    have okk : mbF wd wt lt nh nt = 0 → ∀ (w1 : ev_W), MR S f 70 n w1 → Fr 70 82 w0 w1 → Ev E mX7_readLine 78 [some (.ref 70), some (.int (nI wd))] [] n w1 (0, 0) (fun a u v => ∃ S', a = none ∧ u = n ∧ MR S' f 70 n v ∧ LNR b tl S' (lineF b tl q D nh nt wt lt dy) ∧ GX S S' ∧ Fr 70 82 w0 v) := by
      clear hM hF
      intro hmb w hM hF
      refine st_aload_n (q := 79) dX7_readLine_78 rfl rfl rfl ?_
      refine st_dup (q := 80) dX7_readLine_79 rfl rfl ?_
      refine m_get (q := 83) dX7_readLine_80 rfl fl_X7_124.g hM (by decide) rfl ?_
      refine st_iconst (q := 84) dX7_readLine_83 rfl ic_1 ?_
      refine st_iload_n (q := 85) dX7_readLine_84 rfl rfl rfl ?_
      refine st_ishl (q := 86) dX7_readLine_85 rfl ?_
      refine st_ior (q := 87) dX7_readLine_86 rfl ?_
      refine m_put (q := 90) dX7_readLine_87 rfl fl_X7_124 hM (by decide) rfl rfl rfl (fun w hM hF_ => ?_)
      replace hF := Fr.tr hF hF_
      refine st_aload_n (q := 91) dX7_readLine_90 rfl rfl rfl ?_
      refine sm_V0 (q := 94) (M' := mX7_step) dX7_readLine_91 rfl ok_X7_step mk_X7_step ml_X7_88 ⟨Nat.le_of_ble_eq_true rfl, Nat.le_of_ble_eq_true rfl⟩ rfl (Nat.le_of_ble_eq_true rfl) (g_rv hM rfl) ⟨rfl, rfl⟩ (c_X7_stepX hF hM (hK.up (by omega)) (hT.up (by omega))) ?_
      intro _ n w h9 _
      obtain ⟨S2, rfl, rfl, hM, hP2, hX2, hF⟩ := h9
      have h42 : S2 4 0 = nI nh := by rw [hX2 4 (by omega), tup_n (by decide)]; exact hPS.2.1
      have h52 : S2 5 0 = nI nt := by rw [hX2 5 (by omega), tup_n (by decide)]; exact hPS.2.2.1
      replace hP2 : PT S2 tl (tokF b tl q.2.2.1) := hP2
      cases hy : tokF b tl q.2.2.1 with
      | inl e =>
        rw [hy] at hP2
        refine st_aload_n (q := 95) dX7_readLine_94 rfl rfl rfl ?_
        refine m_get (q := 98) dX7_readLine_95 rfl fl_X7_54.g hM (by decide) rfl ?_
        refine st_if_le (q := 101) (tgt := 102) dX7_readLine_98 rfl rfl (fun c_98 => False.elim (e_nle hP2 c_98)) (fun c_98 => ?_)
        refine st_return dX7_readLine_101 rfl ?_
        exact ⟨S2, rfl, rfl, hM, by rw [hlf, if_pos hmb, lineE_of (nm_rel q.2.2.1), hy, xw_e, chX_e]; exact hP2, GX.t6.tr hX2.gx, hF⟩
      | inr r1 =>
        rw [hy] at hP2
        refine st_aload_n (q := 95) dX7_readLine_94 rfl rfl rfl ?_
        refine m_get (q := 98) dX7_readLine_95 rfl fl_X7_54.g hM (by decide) rfl ?_
        refine st_if_le (q := 101) (tgt := 102) dX7_readLine_98 rfl rfl (fun c_98 => ?_) (fun c_98 => False.elim (c_98 (by rw [hP2.1]; decide)))
        refine st_aload_n (q := 103) dX7_readLine_102 rfl rfl rfl ?_
        refine st_iload_n (q := 104) dX7_readLine_103 rfl rfl rfl ?_
        refine sm_V1 (q := 107) (M' := mX7_readMore) dX7_readLine_104 rfl ok_X7_readMore mk_X7_readMore ml_X7_127 ⟨Nat.le_of_ble_eq_true rfl, Nat.le_of_ble_eq_true rfl⟩ rfl (Nat.le_of_ble_eq_true rfl) (g_rv hM rfl) ⟨rfl, rfl⟩ (c_X7_readMore hF hM ((hK.up (by omega)).fx hX2) hP2 hw.2 h42 h52 (fun z => mb4 hmb hnh4 z) (fun z => mb8 hmb hnt8 z)) ?_
        intro _ n w h9 _
        obtain ⟨S3, rfl, rfl, hM, hP3, hR3, hF⟩ := h9
        have hdy : S2 7 0 = dy := by rw [hX2 7 (by omega), tup_n (by decide)]; exact hPS.2.2.2.2.2.1
        rw [hdy, ← hy] at hP3 hR3
        have hrel := nm_rel (b := b) (tl := tl) (wd := wd) (dy := dy) q.2.2.1
        have hl2 : lineF b tl q D nh nt wt lt dy = lnX D nh nt wt lt dy wd (chV b tl wd (moL wd).length 0 (xw wd dy (tokF b tl q.2.2.1))) (chX b tl wd (moL wd).length 0 (xw wd dy (tokF b tl q.2.2.1))) := by rw [hlf, if_pos hmb, lineE_of hrel]
        have hK3 : KX S3 b tl := by
          have hk := (hK.up (i := 6) (j := 0) (v := S 6 0 ||| 1 <<< (nI wd &&& 31)) (by omega)).fx hX2
          exact ⟨by rw [hR3.2.2.2.2.2.2 9 (by omega)]; exact hk.1, by rw [hR3.2.2.2.2.2.2 10 (by omega)]; exact hk.2.1, hk.2.2⟩
        obtain ⟨V, hV⟩ : ∃ V, V = chV b tl wd (moL wd).length 0 (xw wd dy (tokF b tl q.2.2.1)) := ⟨_, rfl⟩
        obtain ⟨X, hX⟩ : ∃ X, X = chX b tl wd (moL wd).length 0 (xw wd dy (tokF b tl q.2.2.1)) := ⟨_, rfl⟩
        rw [← hV] at hR3
        rw [← hX] at hP3
        rw [← hV, ← hX] at hl2 hrel
        clear hX hV
        cases X with
        | inl e =>
          refine st_aload_n (q := 108) dX7_readLine_107 rfl rfl rfl ?_
          refine m_get (q := 111) dX7_readLine_108 rfl fl_X7_54.g hM (by decide) rfl ?_
          refine st_if_ne (q := 114) (tgt := 127) dX7_readLine_111 rfl rfl (fun c_111 => ?_) (fun c_111 => False.elim (e_ne hP3 c_111))
          refine st_aload_n (q := 128) dX7_readLine_127 rfl rfl rfl ?_
          refine sm_V0 (q := 131) (M' := mX7_step) dX7_readLine_128 rfl ok_X7_step mk_X7_step ml_X7_88 ⟨Nat.le_of_ble_eq_true rfl, Nat.le_of_ble_eq_true rfl⟩ rfl (Nat.le_of_ble_eq_true rfl) (g_rv hM rfl) ⟨rfl, rfl⟩ (c_X7_stepX hF hM (hK3) (hP3)) ?_
          intro _ n w h9 _
          obtain ⟨S4, rfl, rfl, hM, hP4, hX4, hF⟩ := h9
          refine st_return dX7_readLine_131 rfl ?_
          exact ⟨S4, rfl, rfl, hM, by rw [hl2]; exact hP4, ((GX.t6.tr hX2.gx).tr hR3.2.2.2.2.2.2).tr hX4.gx, hF⟩
        | inr r =>
          by_cases h3 : r.1 = 3
          · have hps : PS9 S3 (tlT D nh nt wd (V.getD 0 0) (V.getD 1 0) (V.getD 2 0)) (if wd = 4 then nh + 1 else nh) (if wd < 4 then nt + 1 else nt) (if wd = 6 then 1 else wt) (if wd = 7 then 1 else lt) (if wd = 5 then dy ||| 1 <<< (V.getD 0 0 &&& 31) else dy) := by
              refine hPS.more hX2 hR3 hw.2 (fun z => mb4 hmb hnh4 z) (fun z => mb8 hmb hnt8 z) ?_
              cases hn : nmF b tl wd dy (moL wd).length 0 q.2.2.1 with
              | inl e => rw [hn] at hrel; cases hrel
              | inr s =>
                rw [hn] at hrel
                have hk9 := nmF_ok _ _ _ s hq2t hn
                rw [hrel.2]
                intro j hj
                have := hk9.2.2.2 j hj
                rwa [Nat.zero_add] at this
            refine st_aload_n (q := 108) dX7_readLine_107 rfl rfl rfl ?_
            refine m_get (q := 111) dX7_readLine_108 rfl fl_X7_54.g hM (by decide) rfl ?_
            refine st_if_ne (q := 114) (tgt := 127) dX7_readLine_111 rfl rfl (fun c_111 => False.elim (c_111 hP3.1)) (fun c_111 => ?_)
            refine st_aload_n (q := 115) dX7_readLine_114 rfl rfl rfl ?_
            refine m_get (q := 118) dX7_readLine_115 rfl fl_X7_63.g hM (by decide) rfl ?_
            rw [hP3.2.2.2.1]
            refine st_iconst (q := 119) dX7_readLine_118 rfl ic_3 ?_
            refine st_icmp_eq (q := 122) (tgt := 127) dX7_readLine_119 rfl rfl (fun c_119 => ?_) (fun c_119 => False.elim (c_119 (by rw [h3]; rfl)))
            refine st_aload_n (q := 128) dX7_readLine_127 rfl rfl rfl ?_
            refine sm_V0 (q := 131) (M' := mX7_step) dX7_readLine_128 rfl ok_X7_step mk_X7_step ml_X7_88 ⟨Nat.le_of_ble_eq_true rfl, Nat.le_of_ble_eq_true rfl⟩ rfl (Nat.le_of_ble_eq_true rfl) (g_rv hM rfl) ⟨rfl, rfl⟩ (c_X7_stepX hF hM (hK3) (hP3)) ?_
            intro _ n w h9 _
            obtain ⟨S4, rfl, rfl, hM, hP4, hX4, hF⟩ := h9
            refine st_return dX7_readLine_131 rfl ?_
            exact ⟨S4, rfl, rfl, hM, by rw [hl2, lnX, if_pos h3]; exact ⟨hP4, hps.fx hX4⟩, ((GX.t6.tr hX2.gx).tr hR3.2.2.2.2.2.2).tr hX4.gx, hF⟩
          · refine st_aload_n (q := 108) dX7_readLine_107 rfl rfl rfl ?_
            refine m_get (q := 111) dX7_readLine_108 rfl fl_X7_54.g hM (by decide) rfl ?_
            refine st_if_ne (q := 114) (tgt := 127) dX7_readLine_111 rfl rfl (fun c_111 => False.elim (c_111 hP3.1)) (fun c_111 => ?_)
            refine st_aload_n (q := 115) dX7_readLine_114 rfl rfl rfl ?_
            refine m_get (q := 118) dX7_readLine_115 rfl fl_X7_63.g hM (by decide) rfl ?_
            rw [hP3.2.2.2.1]
            refine st_iconst (q := 119) dX7_readLine_118 rfl ic_3 ?_
            refine st_icmp_eq (q := 122) (tgt := 127) dX7_readLine_119 rfl rfl (fun c_119 => False.elim (h3 (nI_ij (b := 3) (by have := hP3.2.2.2.2.2.2.2; omega) (by decide) c_119))) (fun c_119 => ?_)
            refine st_aload_n (q := 123) dX7_readLine_122 rfl rfl rfl ?_
            refine st_iconst (q := 124) dX7_readLine_123 rfl ic_2 ?_
            refine sm_V1 (q := 127) (M' := mX7_fails) dX7_readLine_124 rfl ok_X7_fails mk_X7_fails ml_X7_84 ⟨Nat.le_of_ble_eq_true rfl, Nat.le_of_ble_eq_true rfl⟩ rfl (Nat.le_of_ble_eq_true rfl) (g_rv hM rfl) ⟨rfl, rfl⟩ (c_X7_fails hF hM hP3.1) ?_
            intro _ n w h9 _
            obtain ⟨rfl, rfl, hM, hF⟩ := h9
            refine st_aload_n (q := 128) dX7_readLine_127 rfl rfl rfl ?_
            refine sm_V0 (q := 131) (M' := mX7_step) dX7_readLine_128 rfl ok_X7_step mk_X7_step ml_X7_88 ⟨Nat.le_of_ble_eq_true rfl, Nat.le_of_ble_eq_true rfl⟩ rfl (Nat.le_of_ble_eq_true rfl) (g_rv hM rfl) ⟨rfl, rfl⟩ (c_X7_stepX hF hM (hK3.fx ((FX.rf.up (by omega)).up (by omega))) (show PT _ tl (.inl (2, r.2.1)) from ⟨rfl, hP3.2.2.1, by simp, by simp⟩)) ?_
            intro _ n w h9 _
            obtain ⟨S4, rfl, rfl, hM, hP4, hX4, hF⟩ := h9
            refine st_return dX7_readLine_131 rfl ?_
            exact ⟨S4, rfl, rfl, hM, by rw [hl2, lnX, if_neg h3]; exact hP4, (((GX.t6.tr hX2.gx).tr hR3.2.2.2.2.2.2).tr (FX.gx ((FX.rf.up (by omega)).up (by omega)))).tr hX4.gx, hF⟩
    refine st_aload_n (q := 1) dX7_readLine_0 rfl rfl rfl ?_
    refine sp_V0 (q := 4) (M' := mX7_nameHere) dX7_readLine_1 rfl ok_X7_nameHere mk_X7_nameHere ml_X7_118 ⟨Nat.le_of_ble_eq_true rfl, Nat.le_of_ble_eq_true rfl⟩ rfl (Nat.le_of_ble_eq_true rfl) (g_rv hM rfl) ⟨rfl, rfl⟩ (c_X7_nameHere hF hM hK hE hT) ?_
    rw [hnm]
    refine st_istore_n (q := 5) (L' := [_, _]) dX7_readLine_4 rfl rfl (Nat.le_of_ble_eq_true rfl) rfl ?_
    refine st_iload_n (q := 6) dX7_readLine_5 rfl rfl rfl ?_
    refine st_i2l (q := 7) dX7_readLine_6 rfl ?_
    refine st_lconst (q := 8) dX7_readLine_7 rfl lc_0 ?_
    refine st_ldc2 (q := 11) dX7_readLine_8 rfl cn_X7_122 ?_
    refine sp_S3 (q := 14) (M' := mX7_in) dX7_readLine_11 rfl ok_X7_in mk_X7_in ml_X7_46 ⟨Nat.le_of_ble_eq_true rfl, Nat.le_of_ble_eq_true rfl⟩ rfl (Nat.le_of_ble_eq_true rfl) ⟨rfl, rfl⟩ (c_X7_inI (a := 0) (c := 7) (by decide) (by decide)) ?_
    refine st_if_ne (q := 17) (tgt := 23) dX7_readLine_14 rfl rfl (fun c_14 => ?_) (fun c_14 => False.elim (absurd (zI_0.mp c_14) (by rw [hin7]; decide)))
    have hcs : wd < 4 ∨ wd = 4 ∨ wd = 5 ∨ wd = 6 ∨ wd = 7 := by omega
    rcases hcs with hc | hc | hc | hc | hc
    · refine st_iload_n (q := 24) dX7_readLine_23 rfl rfl rfl ?_
      refine st_iconst (q := 25) dX7_readLine_24 rfl ic_3 ?_
      refine st_icmp_gt (q := 28) (tgt := 37) dX7_readLine_25 rfl rfl (fun c_25 => False.elim (absurd c_25 (nI_nlt (a := 3) (b := wd) (by omega) (by decide)))) (fun c_25 => ?_)
      refine st_aload_n (q := 29) dX7_readLine_28 rfl rfl rfl ?_
      refine m_get (q := 32) dX7_readLine_29 rfl fl_X7_98.g hM (by decide) rfl ?_
      rw [h5]
      refine st_bipush (q := 34) dX7_readLine_32 rfl bp_8 ?_
      refine st_icmp_eq (q := 37) (tgt := 50) dX7_readLine_34 rfl rfl (fun c_34 => ?_) (fun c_34 => ?_)
      · refine st_aload_n (q := 51) dX7_readLine_50 rfl rfl rfl ?_
        refine st_iconst (q := 52) dX7_readLine_51 rfl ic_5 ?_
        refine sm_V1 (q := 55) (M' := mX7_fails) dX7_readLine_52 rfl ok_X7_fails mk_X7_fails ml_X7_84 ⟨Nat.le_of_ble_eq_true rfl, Nat.le_of_ble_eq_true rfl⟩ rfl (Nat.le_of_ble_eq_true rfl) (g_rv hM rfl) ⟨rfl, rfl⟩ (c_X7_fails hF hM h0) ?_
        intro _ n w h9 _
        obtain ⟨rfl, rfl, hM, hF⟩ := h9
        refine st_iload_n (q := 56) dX7_readLine_55 rfl rfl rfl ?_
        refine st_bipush (q := 58) dX7_readLine_56 rfl bp_6 ?_
        refine st_icmp_lt (q := 61) (tgt := 78) dX7_readLine_58 rfl rfl (fun c_58 => ?_) (fun c_58 => False.elim (c_58 ((nI_ltiff (a := wd) (b := 6) (by omega) (by decide)).mpr (by omega))))
        first
          | (have hm9 : mbF wd wt lt nh nt = 5 := by rw [mbF, if_neg (by omega), if_pos (Or.inr ⟨hc, by have := nI_ij (b := 8) (by omega) (by decide) c_34; omega⟩)]
             exact brk _ w 5 hM hF ((FX.rf.up (by omega)).up (by omega)) ⟨rfl, h15, by simp, by simp⟩ (by rw [hlf, hm9, if_neg (by decide)]))
          | exact okk (by rw [mbF, if_neg (by omega), if_neg (fun z => c_34 (by rw [show nt = 8 from by omega]; rfl))]) w hM hF
      · refine st_iload_n (q := 38) dX7_readLine_37 rfl rfl rfl ?_
        refine st_iconst (q := 39) dX7_readLine_38 rfl ic_4 ?_
        refine st_icmp_ne (q := 42) (tgt := 55) dX7_readLine_39 rfl rfl (fun c_39 => ?_) (fun c_39 => False.elim (absurd (nI_ij (b := 4) (by omega) (by decide) c_39) (by omega)))
        refine st_iload_n (q := 56) dX7_readLine_55 rfl rfl rfl ?_
        refine st_bipush (q := 58) dX7_readLine_56 rfl bp_6 ?_
        refine st_icmp_lt (q := 61) (tgt := 78) dX7_readLine_58 rfl rfl (fun c_58 => ?_) (fun c_58 => False.elim (c_58 ((nI_ltiff (a := wd) (b := 6) (by omega) (by decide)).mpr (by omega))))
        first
          | (have hm9 : mbF wd wt lt nh nt = 5 := by rw [mbF, if_neg (by omega), if_pos (Or.inr ⟨hc, by have := nI_ij (b := 8) (by omega) (by decide) c_34; omega⟩)]
             exact brk _ w 5 hM hF ((FX.rf.up (by omega)).up (by omega)) ⟨rfl, h15, by simp, by simp⟩ (by rw [hlf, hm9, if_neg (by decide)]))
          | exact okk (by rw [mbF, if_neg (by omega), if_neg (fun z => c_34 (by rw [show nt = 8 from by omega]; rfl))]) w hM hF
    · refine st_iload_n (q := 24) dX7_readLine_23 rfl rfl rfl ?_
      refine st_iconst (q := 25) dX7_readLine_24 rfl ic_3 ?_
      refine st_icmp_gt (q := 28) (tgt := 37) dX7_readLine_25 rfl rfl (fun c_25 => ?_) (fun c_25 => False.elim (c_25 ((nI_ltiff (a := 3) (b := wd) (by decide) (by omega)).mpr (by omega))))
      refine st_iload_n (q := 38) dX7_readLine_37 rfl rfl rfl ?_
      refine st_iconst (q := 39) dX7_readLine_38 rfl ic_4 ?_
      refine st_icmp_ne (q := 42) (tgt := 55) dX7_readLine_39 rfl rfl (fun c_39 => False.elim (c_39 (by rw [hc]; rfl))) (fun c_39 => ?_)
      refine st_aload_n (q := 43) dX7_readLine_42 rfl rfl rfl ?_
      refine m_get (q := 46) dX7_readLine_43 rfl fl_X7_101.g hM (by decide) rfl ?_
      rw [h4]
      refine st_iconst (q := 47) dX7_readLine_46 rfl ic_4 ?_
      refine st_icmp_ne (q := 50) (tgt := 55) dX7_readLine_47 rfl rfl (fun c_47 => ?_) (fun c_47 => ?_)
      · refine st_iload_n (q := 56) dX7_readLine_55 rfl rfl rfl ?_
        refine st_bipush (q := 58) dX7_readLine_56 rfl bp_6 ?_
        refine st_icmp_lt (q := 61) (tgt := 78) dX7_readLine_58 rfl rfl (fun c_58 => ?_) (fun c_58 => False.elim (c_58 ((nI_ltiff (a := wd) (b := 6) (by omega) (by decide)).mpr (by omega))))
        first
          | (have hm9 : mbF wd wt lt nh nt = 5 := by rw [mbF, if_neg (by omega), if_pos (Or.inl ⟨hc, by have := nI_ij (b := 4) (by omega) (by decide) c_47; omega⟩)]
             exact brk _ w 5 hM hF ((FX.rf.up (by omega)).up (by omega)) ⟨rfl, h15, by simp, by simp⟩ (by rw [hlf, hm9, if_neg (by decide)]))
          | exact okk (by rw [mbF, if_neg (by omega), if_neg (fun z => c_47 (by rw [show nh = 4 from by omega]; rfl))]) w hM hF
      · refine st_aload_n (q := 51) dX7_readLine_50 rfl rfl rfl ?_
        refine st_iconst (q := 52) dX7_readLine_51 rfl ic_5 ?_
        refine sm_V1 (q := 55) (M' := mX7_fails) dX7_readLine_52 rfl ok_X7_fails mk_X7_fails ml_X7_84 ⟨Nat.le_of_ble_eq_true rfl, Nat.le_of_ble_eq_true rfl⟩ rfl (Nat.le_of_ble_eq_true rfl) (g_rv hM rfl) ⟨rfl, rfl⟩ (c_X7_fails hF hM h0) ?_
        intro _ n w h9 _
        obtain ⟨rfl, rfl, hM, hF⟩ := h9
        refine st_iload_n (q := 56) dX7_readLine_55 rfl rfl rfl ?_
        refine st_bipush (q := 58) dX7_readLine_56 rfl bp_6 ?_
        refine st_icmp_lt (q := 61) (tgt := 78) dX7_readLine_58 rfl rfl (fun c_58 => ?_) (fun c_58 => False.elim (c_58 ((nI_ltiff (a := wd) (b := 6) (by omega) (by decide)).mpr (by omega))))
        first
          | (have hm9 : mbF wd wt lt nh nt = 5 := by rw [mbF, if_neg (by omega), if_pos (Or.inl ⟨hc, by have := nI_ij (b := 4) (by omega) (by decide) c_47; omega⟩)]
             exact brk _ w 5 hM hF ((FX.rf.up (by omega)).up (by omega)) ⟨rfl, h15, by simp, by simp⟩ (by rw [hlf, hm9, if_neg (by decide)]))
          | exact okk (by rw [mbF, if_neg (by omega), if_neg (fun z => c_47 (by rw [show nh = 4 from by omega]; rfl))]) w hM hF
    · refine st_iload_n (q := 24) dX7_readLine_23 rfl rfl rfl ?_
      refine st_iconst (q := 25) dX7_readLine_24 rfl ic_3 ?_
      refine st_icmp_gt (q := 28) (tgt := 37) dX7_readLine_25 rfl rfl (fun c_25 => ?_) (fun c_25 => False.elim (c_25 ((nI_ltiff (a := 3) (b := wd) (by decide) (by omega)).mpr (by omega))))
      refine st_iload_n (q := 38) dX7_readLine_37 rfl rfl rfl ?_
      refine st_iconst (q := 39) dX7_readLine_38 rfl ic_4 ?_
      refine st_icmp_ne (q := 42) (tgt := 55) dX7_readLine_39 rfl rfl (fun c_39 => ?_) (fun c_39 => False.elim (absurd (nI_ij (b := 4) (by omega) (by decide) c_39) (by omega)))
      refine st_iload_n (q := 56) dX7_readLine_55 rfl rfl rfl ?_
      refine st_bipush (q := 58) dX7_readLine_56 rfl bp_6 ?_
      refine st_icmp_lt (q := 61) (tgt := 78) dX7_readLine_58 rfl rfl (fun c_58 => ?_) (fun c_58 => False.elim (c_58 ((nI_ltiff (a := wd) (b := 6) (by omega) (by decide)).mpr (by omega))))
      exact okk (by rw [mbF, if_neg (by omega), if_neg (by omega)]) w hM hF
    · refine st_iload_n (q := 24) dX7_readLine_23 rfl rfl rfl ?_
      refine st_iconst (q := 25) dX7_readLine_24 rfl ic_3 ?_
      refine st_icmp_gt (q := 28) (tgt := 37) dX7_readLine_25 rfl rfl (fun c_25 => ?_) (fun c_25 => False.elim (c_25 ((nI_ltiff (a := 3) (b := wd) (by decide) (by omega)).mpr (by omega))))
      refine st_iload_n (q := 38) dX7_readLine_37 rfl rfl rfl ?_
      refine st_iconst (q := 39) dX7_readLine_38 rfl ic_4 ?_
      refine st_icmp_ne (q := 42) (tgt := 55) dX7_readLine_39 rfl rfl (fun c_39 => ?_) (fun c_39 => False.elim (absurd (nI_ij (b := 4) (by omega) (by decide) c_39) (by omega)))
      refine st_iload_n (q := 56) dX7_readLine_55 rfl rfl rfl ?_
      refine st_bipush (q := 58) dX7_readLine_56 rfl bp_6 ?_
      refine st_icmp_lt (q := 61) (tgt := 78) dX7_readLine_58 rfl rfl (fun c_58 => False.elim (absurd ((nI_ltiff (a := wd) (b := 6) (by omega) (by decide)).mp c_58) (by omega))) (fun c_58 => ?_)
      refine st_aload_n (q := 62) dX7_readLine_61 rfl rfl rfl ?_
      refine m_get (q := 65) dX7_readLine_62 rfl fl_X7_124.g hM (by decide) rfl ?_
      refine st_iload_n (q := 66) dX7_readLine_65 rfl rfl rfl ?_
      refine st_ishr (q := 67) dX7_readLine_66 rfl ?_
      refine st_iconst (q := 68) dX7_readLine_67 rfl ic_1 ?_
      refine st_iand (q := 69) dX7_readLine_68 rfl ?_
      refine st_iconst (q := 70) dX7_readLine_69 rfl ic_1 ?_
      refine st_icmp_ne (q := 73) (tgt := 78) dX7_readLine_70 rfl rfl (fun c_70 => ?_) (fun c_70 => ?_)
      · first
          | (have hm9 : mbF wd wt lt nh nt = 4 := by rw [mbF, if_pos (Or.inl ⟨hc, hPS.2.2.2.1.mp (by have := (sh1_1 (S 6 0) (by omega)).mp c_70; rw [hc] at this; exact this)⟩)]
             exact brk _ w 4 hM hF ((FX.rf.up (by omega)).up (by omega)) ⟨rfl, h15, by simp, by simp⟩ (by rw [hlf, hm9, if_neg (by decide)]))
          | exact okk (by rw [mbF, if_neg (fun z => c_70 ((sh1_1 (S 6 0) (by omega)).mpr (by rw [hc]; exact hPS.2.2.2.1.mpr (by
                 rcases z with z | z
                 · first | exact z.2 | omega
                 · first | exact z.2 | omega)))), if_neg (by omega)]) w hM hF
      · refine st_aload_n (q := 74) dX7_readLine_73 rfl rfl rfl ?_
        refine st_iconst (q := 75) dX7_readLine_74 rfl ic_4 ?_
        refine sm_V1 (q := 78) (M' := mX7_fails) dX7_readLine_75 rfl ok_X7_fails mk_X7_fails ml_X7_84 ⟨Nat.le_of_ble_eq_true rfl, Nat.le_of_ble_eq_true rfl⟩ rfl (Nat.le_of_ble_eq_true rfl) (g_rv hM rfl) ⟨rfl, rfl⟩ (c_X7_fails hF hM h0) ?_
        intro _ n w h9 _
        obtain ⟨rfl, rfl, hM, hF⟩ := h9
        first
          | (have hm9 : mbF wd wt lt nh nt = 4 := by rw [mbF, if_pos (Or.inl ⟨hc, hPS.2.2.2.1.mp (by have := (sh1_1 (S 6 0) (by omega)).mp c_70; rw [hc] at this; exact this)⟩)]
             exact brk _ w 4 hM hF ((FX.rf.up (by omega)).up (by omega)) ⟨rfl, h15, by simp, by simp⟩ (by rw [hlf, hm9, if_neg (by decide)]))
          | exact okk (by rw [mbF, if_neg (fun z => c_70 ((sh1_1 (S 6 0) (by omega)).mpr (by rw [hc]; exact hPS.2.2.2.1.mpr (by
                 rcases z with z | z
                 · first | exact z.2 | omega
                 · first | exact z.2 | omega)))), if_neg (by omega)]) w hM hF
    · refine st_iload_n (q := 24) dX7_readLine_23 rfl rfl rfl ?_
      refine st_iconst (q := 25) dX7_readLine_24 rfl ic_3 ?_
      refine st_icmp_gt (q := 28) (tgt := 37) dX7_readLine_25 rfl rfl (fun c_25 => ?_) (fun c_25 => False.elim (c_25 ((nI_ltiff (a := 3) (b := wd) (by decide) (by omega)).mpr (by omega))))
      refine st_iload_n (q := 38) dX7_readLine_37 rfl rfl rfl ?_
      refine st_iconst (q := 39) dX7_readLine_38 rfl ic_4 ?_
      refine st_icmp_ne (q := 42) (tgt := 55) dX7_readLine_39 rfl rfl (fun c_39 => ?_) (fun c_39 => False.elim (absurd (nI_ij (b := 4) (by omega) (by decide) c_39) (by omega)))
      refine st_iload_n (q := 56) dX7_readLine_55 rfl rfl rfl ?_
      refine st_bipush (q := 58) dX7_readLine_56 rfl bp_6 ?_
      refine st_icmp_lt (q := 61) (tgt := 78) dX7_readLine_58 rfl rfl (fun c_58 => False.elim (absurd ((nI_ltiff (a := wd) (b := 6) (by omega) (by decide)).mp c_58) (by omega))) (fun c_58 => ?_)
      refine st_aload_n (q := 62) dX7_readLine_61 rfl rfl rfl ?_
      refine m_get (q := 65) dX7_readLine_62 rfl fl_X7_124.g hM (by decide) rfl ?_
      refine st_iload_n (q := 66) dX7_readLine_65 rfl rfl rfl ?_
      refine st_ishr (q := 67) dX7_readLine_66 rfl ?_
      refine st_iconst (q := 68) dX7_readLine_67 rfl ic_1 ?_
      refine st_iand (q := 69) dX7_readLine_68 rfl ?_
      refine st_iconst (q := 70) dX7_readLine_69 rfl ic_1 ?_
      refine st_icmp_ne (q := 73) (tgt := 78) dX7_readLine_70 rfl rfl (fun c_70 => ?_) (fun c_70 => ?_)
      · first
          | (have hm9 : mbF wd wt lt nh nt = 4 := by rw [mbF, if_pos (Or.inr ⟨hc, hPS.2.2.2.2.1.mp (by have := (sh1_1 (S 6 0) (by omega)).mp c_70; rw [hc] at this; exact this)⟩)]
             exact brk _ w 4 hM hF ((FX.rf.up (by omega)).up (by omega)) ⟨rfl, h15, by simp, by simp⟩ (by rw [hlf, hm9, if_neg (by decide)]))
          | exact okk (by rw [mbF, if_neg (fun z => c_70 ((sh1_1 (S 6 0) (by omega)).mpr (by rw [hc]; exact hPS.2.2.2.2.1.mpr (by
                 rcases z with z | z
                 · first | exact z.2 | omega
                 · first | exact z.2 | omega)))), if_neg (by omega)]) w hM hF
      · refine st_aload_n (q := 74) dX7_readLine_73 rfl rfl rfl ?_
        refine st_iconst (q := 75) dX7_readLine_74 rfl ic_4 ?_
        refine sm_V1 (q := 78) (M' := mX7_fails) dX7_readLine_75 rfl ok_X7_fails mk_X7_fails ml_X7_84 ⟨Nat.le_of_ble_eq_true rfl, Nat.le_of_ble_eq_true rfl⟩ rfl (Nat.le_of_ble_eq_true rfl) (g_rv hM rfl) ⟨rfl, rfl⟩ (c_X7_fails hF hM h0) ?_
        intro _ n w h9 _
        obtain ⟨rfl, rfl, hM, hF⟩ := h9
        first
          | (have hm9 : mbF wd wt lt nh nt = 4 := by rw [mbF, if_pos (Or.inr ⟨hc, hPS.2.2.2.2.1.mp (by have := (sh1_1 (S 6 0) (by omega)).mp c_70; rw [hc] at this; exact this)⟩)]
             exact brk _ w 4 hM hF ((FX.rf.up (by omega)).up (by omega)) ⟨rfl, h15, by simp, by simp⟩ (by rw [hlf, hm9, if_neg (by decide)]))
          | exact okk (by rw [mbF, if_neg (fun z => c_70 ((sh1_1 (S 6 0) (by omega)).mpr (by rw [hc]; exact hPS.2.2.2.2.1.mpr (by
                 rcases z with z | z
                 · first | exact z.2 | omega
                 · first | exact z.2 | omega)))), if_neg (by omega)]) w hM hF
  · have hnm : nmA b q = -4 := by
      unfold nmA
      by_cases z : q.1 = 1
      · rw [if_pos z, if_neg (fun y => hw ⟨z, y⟩)]
      · rw [if_neg z]
    refine st_aload_n (q := 1) dX7_readLine_0 rfl rfl rfl ?_
    refine sp_V0 (q := 4) (M' := mX7_nameHere) dX7_readLine_1 rfl ok_X7_nameHere mk_X7_nameHere ml_X7_118 ⟨Nat.le_of_ble_eq_true rfl, Nat.le_of_ble_eq_true rfl⟩ rfl (Nat.le_of_ble_eq_true rfl) (g_rv hM rfl) ⟨rfl, rfl⟩ (c_X7_nameHere hF hM hK hE hT) ?_
    rw [hnm]
    refine st_istore_n (q := 5) (L' := [_, _]) dX7_readLine_4 rfl rfl (Nat.le_of_ble_eq_true rfl) rfl ?_
    refine st_iload_n (q := 6) dX7_readLine_5 rfl rfl rfl ?_
    refine st_i2l (q := 7) dX7_readLine_6 rfl ?_
    refine st_lconst (q := 8) dX7_readLine_7 rfl lc_0 ?_
    refine st_ldc2 (q := 11) dX7_readLine_8 rfl cn_X7_122 ?_
    refine sp_S3 (q := 14) (M' := mX7_in) dX7_readLine_11 rfl ok_X7_in mk_X7_in ml_X7_46 ⟨Nat.le_of_ble_eq_true rfl, Nat.le_of_ble_eq_true rfl⟩ rfl (Nat.le_of_ble_eq_true rfl) ⟨rfl, rfl⟩ (c_X7_inI (a := 0) (c := 7) (by decide) (by decide)) ?_
    refine st_if_ne (q := 17) (tgt := 23) dX7_readLine_14 rfl rfl (fun c_14 => False.elim (absurd (zI_1.mp c_14) (by decide))) (fun c_14 => ?_)
    refine st_aload_n (q := 18) dX7_readLine_17 rfl rfl rfl ?_
    refine st_iconst (q := 19) dX7_readLine_18 rfl ic_2 ?_
    refine sm_V1 (q := 22) (M' := mX7_fails) dX7_readLine_19 rfl ok_X7_fails mk_X7_fails ml_X7_84 ⟨Nat.le_of_ble_eq_true rfl, Nat.le_of_ble_eq_true rfl⟩ rfl (Nat.le_of_ble_eq_true rfl) (g_rv hM rfl) ⟨rfl, rfl⟩ (c_X7_fails hF hM h0) ?_
    intro _ n w h9 _
    obtain ⟨rfl, rfl, hM, hF⟩ := h9
    refine st_return dX7_readLine_22 rfl ?_
    refine ⟨_, rfl, rfl, hM, ?_, ((FX.rf.up (by omega)).up (by omega)).gx, hF⟩
    rw [lineF, if_neg hw]
    exact ⟨rfl, h15, by simp, by simp⟩
