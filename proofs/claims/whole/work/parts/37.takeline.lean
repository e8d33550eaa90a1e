def LQ (R : gT) (t : (Nat × Nat) ⊕ PSt) (n : Nat) (w : ev_W) : Option Value → Nat → ev_W → Prop := fun a m u => m = n ∧ FrW w u ∧ match t with
  | .inl e => a = some (.int 0) ∧ ∃ R' D', RR R' n u ∧ TR D' 45 n u ∧ R' 10 0 = nI e.1 ∧ R' 11 0 = nI e.2
  | .inr s => a = some (.int 1) ∧ ∃ R', RR R' n u ∧ TR s.2.1 45 n u ∧ R' 3 0 = nI s.1 ∧ R' 7 0 = s.2.2.2.2.1 ∧ R' 8 0 = s.2.2.2.2.2.1 ∧ R' 9 0 = s.2.2.2.2.2.2 ∧ R' 10 0 = R 10 0
theorem wdI_ne {wd : Nat} (h : wd < 8) : ¬ wdI wd = -1 := by
  have : ∀ wd, wd < 8 → ¬ wdI wd = -1 := by decide
  exact this wd h
theorem mb4 {wd nh nt : Nat} {wt lt : Int32} (h : mbF wd wt lt nh nt = 0) (hh : nh ≤ 4) : wd = 4 → nh < 4 := fun z => by
  rcases Nat.lt_or_ge nh 4 with y | y
  · exact y
  · exfalso
    unfold mbF at h
    split at h
    · cases h
    · rw [if_pos (Or.inl ⟨z, y⟩)] at h; cases h
theorem mb8 {wd nh nt : Nat} {wt lt : Int32} (h : mbF wd wt lt nh nt = 0) (hh : nt ≤ 8) : wd < 4 → nt < 8 := fun z => by
  rcases Nat.lt_or_ge nt 8 with y | y
  · exact y
  · exfalso
    unfold mbF at h
    split at h
    · cases h
    · rw [if_pos (Or.inr ⟨z, y⟩)] at h; cases h
theorem tlT_v {D R : gT} {nh nt wd : Nat} {v : List Int32} (hw : wd < 8) (h : ∀ k, k < (moL wd).length → R 2 k = v.getD k 0) : tlT D nh nt wd (R 2 0) (R 2 1) (R 2 2) = tlT D nh nt wd (v.getD 0 0) (v.getD 1 0) (v.getD 2 0) := by
  match wd, hw, h with
  | 0, _, h => rw [h 0 (by decide), h 1 (by decide), h 2 (by decide)]
  | 1, _, h => rw [h 0 (by decide), h 1 (by decide), h 2 (by decide)]
  | 2, _, h => rw [h 0 (by decide), h 1 (by decide), h 2 (by decide)]
  | 3, _, h => rw [h 0 (by decide), h 1 (by decide), h 2 (by decide)]
  | 4, _, h => rw [h 0 (by decide), h 1 (by decide), h 2 (by decide)]
  | 5, _, h => rw [h 0 (by decide), h 1 (by decide)]; rfl
  | 6, _, h => rw [h 0 (by decide)]; rfl
  | 7, _, h => rw [h 0 (by decide)]; rfl
  | k + 8, hw, _ => exact absurd hw (by omega)
set_option maxRecDepth 100000 in
set_option maxHeartbeats 4000000 in
theorem c_X1_takeLine {E : ev_E} {n : Nat} {w : ev_W} {R Tp : gT} (hR : RR R n w) (hTp : PR Tp 43 n w) {tl : Nat} (e1 : Tp 1 0 = nI tl) (ht : tl ≤ 160) {D : gT} (hQ : TR D 45 n w) {nh nt : Nat} (hD : DKp D nh nt) {q : Nat × Nat × Nat × Int32} (hq1 : q.1 ≤ 3) (hq2 : q.2.1 ≤ q.2.2.1) (hq3 : q.2.2.1 ≤ tl) (e4 : R 4 0 = nI q.1) (e5 : R 5 0 = nI q.2.1) (e3 : R 3 0 = nI q.2.2.1) : Ct E mX1_takeLine [.ref 42] n w (LQ R (lineF (Tp 0) tl q D nh nt (R 7 0) (R 8 0) (R 9 0)) n w) := by
  refine Ct.of 1 (by decide) (Nat.le_of_ble_eq_true rfl) rfl ?_
  have hF : FrW w w := FrW.rf
  refine st_aload_n (q := 1) dX1_takeLine_0 rfl rfl rfl ?_
  refine g_get (q := 4) dX1_takeLine_1 rfl fl_X1_59.g hR rfl ?_
  refine st_iconst (q := 5) dX1_takeLine_4 rfl ic_1 ?_
  refine st_icmp_ne (q := 8) (tgt := 15) dX1_takeLine_5 rfl rfl (fun c_5 => ?_) (fun c_5 => ?_)
  · have hk1 : ¬ q.1 = 1 := fun z => c_5 (by rw [e4, z]; rfl)
    refine st_iconst (q := 16) dX1_takeLine_15 rfl ic_m1 ?_
    refine st_istore_n (q := 17) (L' := [_, _]) dX1_takeLine_16 rfl rfl (Nat.le_of_ble_eq_true rfl) rfl ?_
    refine st_iload_n (q := 18) dX1_takeLine_17 rfl rfl rfl ?_
    refine st_iconst (q := 19) dX1_takeLine_18 rfl ic_m1 ?_
    refine st_icmp_ne (q := 22) (tgt := 32) dX1_takeLine_19 rfl rfl (fun c_19 => False.elim (c_19 rfl)) (fun c_19 => ?_)
    refine st_aload_n (q := 23) dX1_takeLine_22 rfl rfl rfl ?_
    refine st_iconst (q := 24) dX1_takeLine_23 rfl ic_2 ?_
    refine st_aload_n (q := 25) dX1_takeLine_24 rfl rfl rfl ?_
    refine g_get (q := 28) dX1_takeLine_25 rfl fl_X1_76.g hR rfl ?_
    refine sm_V2 (q := 31) (M' := mX1_refuse) dX1_takeLine_28 rfl ok_X1_refuse mk_X1_refuse ml_X1_68 ⟨Nat.le_of_ble_eq_true rfl, Nat.le_of_ble_eq_true rfl⟩ rfl (Nat.le_of_ble_eq_true rfl) (g_rv hR rfl) ⟨rfl, rfl⟩ (c_X1_refuse hR) ?_
    intro _ n w h9 _
    obtain ⟨rfl, rfl, hR, hF_⟩ := h9
    replace hQ := GR.fr gkX5 hQ (fun k h1 h2 => hF_ k (by omega) (by omega))
    replace hTp := GR.fr gkX4 hTp (fun k h1 h2 => hF_ k (by omega) (by omega))
    replace hF := FrW.l hF hF_
    refine st_nreturn dX1_takeLine_31 rfl (by rfl) ?_
    have hl : lineF (Tp 0) tl q D nh nt (R 7 0) (R 8 0) (R 9 0) = .inl (2, q.2.1) := by rw [lineF, if_neg (fun z => hk1 z.1)]
    refine ⟨rfl, hF, ?_⟩
    rw [hl]
    exact ⟨rfl, _, D, hR, hQ, rfl, e5⟩
  · have hk1 : q.1 = 1 := nI_ij (b := 1) (by omega) (by decide) (by rw [← e4]; exact c_5)
    refine st_aload_n (q := 9) dX1_takeLine_8 rfl rfl rfl ?_
    refine sp_V0 (q := 12) (M' := mX1_wordHere) dX1_takeLine_9 rfl ok_X1_wordHere mk_X1_wordHere ml_X1_72 ⟨Nat.le_of_ble_eq_true rfl, Nat.le_of_ble_eq_true rfl⟩ rfl (Nat.le_of_ble_eq_true rfl) (g_rv hR rfl) ⟨rfl, rfl⟩ (c_X1_wordHere hR hTp e1 ht hq2 hq3 e3 e5) ?_
    refine st_goto (q := 16) dX1_takeLine_12 rfl ?_
    refine st_istore_n (q := 17) (L' := [_, _]) dX1_takeLine_16 rfl rfl (Nat.le_of_ble_eq_true rfl) rfl ?_
    obtain ⟨wd, hwd⟩ : ∃ x, wdF (Tp 0) q.2.1 q.2.2.1 0 8 = x := ⟨_, rfl⟩
    rw [hwd]
    by_cases hw8 : wd < 8
    · refine st_iload_n (q := 18) dX1_takeLine_17 rfl rfl rfl ?_
      refine st_iconst (q := 19) dX1_takeLine_18 rfl ic_m1 ?_
      refine st_icmp_ne (q := 22) (tgt := 32) dX1_takeLine_19 rfl rfl (fun c_19 => ?_) (fun c_19 => False.elim (wdI_ne hw8 c_19))
      refine st_aload_n (q := 33) dX1_takeLine_32 rfl rfl rfl ?_
      refine st_iload_n (q := 34) dX1_takeLine_33 rfl rfl rfl ?_
      rw [wdI, if_neg (by omega)]
      refine sm_V1 (q := 37) (M' := mX1_mayBegin) dX1_takeLine_34 rfl ok_X1_mayBegin mk_X1_mayBegin ml_X1_79 ⟨Nat.le_of_ble_eq_true rfl, Nat.le_of_ble_eq_true rfl⟩ rfl (Nat.le_of_ble_eq_true rfl) (g_rv hR rfl) ⟨rfl, rfl⟩ (c_X1_mayBegin hR hQ hD.1 hD.2.1 hD.2.2.1 hD.2.2.2 (wd := wd) hw8) ?_
      intro v9 n w h9 _
      obtain ⟨rfl, hF_, h9⟩ := h9
      replace hQ := GR.fr gkX5 hQ (fun k h1 h2 => hF_ k (by omega) (by omega))
      replace hTp := GR.fr gkX4 hTp (fun k h1 h2 => hF_ k (by omega) (by omega))
      replace hF := FrW.l hF hF_
      rcases h9 with ⟨hmb, rfl, hR⟩ | ⟨hmb, rfl, R2, hR, h10, h11⟩
      · have hl0 : lineF (Tp 0) tl q D nh nt (R 7 0) (R 8 0) (R 9 0) = lineE (Tp 0) tl D nh nt (R 7 0) (R 8 0) (R 9 0) wd (nmF (Tp 0) tl wd (R 9 0) (moL wd).length 0 q.2.2.1) := by rw [lineF, hwd, if_pos ⟨hk1, hw8⟩, if_pos hmb]
        refine st_if_eq (q := 40) (tgt := 55) dX1_takeLine_37 rfl rfl (fun c_37 => False.elim (absurd c_37 (by decide))) (fun c_37 => ?_)
        refine st_aload_n (q := 41) dX1_takeLine_40 rfl rfl rfl ?_
        refine st_iload_n (q := 42) dX1_takeLine_41 rfl rfl rfl ?_
        refine sm_V1 (q := 45) (M' := mX1_takeNumbers) dX1_takeLine_42 rfl ok_X1_takeNumbers mk_X1_takeNumbers ml_X1_83 ⟨Nat.le_of_ble_eq_true rfl, Nat.le_of_ble_eq_true rfl⟩ rfl (Nat.le_of_ble_eq_true rfl) (g_rv hR rfl) ⟨rfl, rfl⟩ (c_X1_takeNumbers hR hTp e1 ht (p0 := q.2.2.1) hq3 e3 (wd := wd) hw8) ?_
        intro v9 n w h9 _
        obtain ⟨rfl, hF_, h9⟩ := h9
        replace hQ := GR.fr gkX5 hQ (fun k h1 h2 => hF_ k (by omega) (by omega))
        replace hTp := GR.fr gkX4 hTp (fun k h1 h2 => hF_ k (by omega) (by omega))
        replace hF := FrW.l hF hF_
        obtain ⟨nm, hnm⟩ : ∃ t, nmF (Tp 0) tl wd (R 9 0) (moL wd).length 0 q.2.2.1 = t := ⟨_, rfl⟩
        rw [hnm] at h9
        rcases nm with e | s
        · obtain ⟨rfl, R3, hR, h10, h11⟩ := h9
          refine st_if_eq (q := 48) (tgt := 55) dX1_takeLine_45 rfl rfl (fun c_45 => ?_) (fun c_45 => False.elim (c_45 rfl))
          refine st_iconst (q := 56) dX1_takeLine_55 rfl ic_0 ?_
          refine st_nreturn dX1_takeLine_56 rfl (by rfl) ?_
          have hl : lineF (Tp 0) tl q D nh nt (R 7 0) (R 8 0) (R 9 0) = .inl e := by rw [hl0, hnm, lineE]
          refine ⟨rfl, hF, ?_⟩
          rw [hl]
          exact ⟨rfl, R3, D, hR, hQ, h10, h11⟩
        · obtain ⟨rfl, R3, hR, e3, hv3, hR3g⟩ := h9
          have hs := nmF_ok _ _ _ _ hq3 hnm
          refine st_if_eq (q := 48) (tgt := 55) dX1_takeLine_45 rfl rfl (fun c_45 => False.elim (absurd c_45 (by decide))) (fun c_45 => ?_)
          refine st_aload_n (q := 49) dX1_takeLine_48 rfl rfl rfl ?_
          refine sm_V0 (q := 52) (M' := mX1_takeToken) dX1_takeLine_49 rfl ok_X1_takeToken mk_X1_takeToken ml_X1_55 ⟨Nat.le_of_ble_eq_true rfl, Nat.le_of_ble_eq_true rfl⟩ rfl (Nat.le_of_ble_eq_true rfl) (g_rv hR rfl) ⟨rfl, rfl⟩ (c_X1_takeToken hR hTp e1 ht hs.2.1 e3) ?_
          intro v9 n w h9 _
          obtain ⟨rfl, hF_, h9⟩ := h9
          replace hQ := GR.fr gkX5 hQ (fun k h1 h2 => hF_ k (by omega) (by omega))
          replace hTp := GR.fr gkX4 hTp (fun k h1 h2 => hF_ k (by omega) (by omega))
          replace hF := FrW.l hF hF_
          obtain ⟨tk, htk⟩ : ∃ t, tokF (Tp 0) tl s.2 = t := ⟨_, rfl⟩
          rw [htk] at h9
          rcases tk with e | r
          · obtain ⟨rfl, R4, hR, h10, h11⟩ := h9
            refine st_if_ne (q := 55) (tgt := 57) dX1_takeLine_52 rfl rfl (fun c_52 => False.elim (c_52 rfl)) (fun c_52 => ?_)
            refine st_iconst (q := 56) dX1_takeLine_55 rfl ic_0 ?_
            refine st_nreturn dX1_takeLine_56 rfl (by rfl) ?_
            have hl : lineF (Tp 0) tl q D nh nt (R 7 0) (R 8 0) (R 9 0) = .inl e := by rw [hl0, hnm, lineE]; rw [htk]
            refine ⟨rfl, hF, ?_⟩
            rw [hl]
            exact ⟨rfl, R4, D, hR, hQ, h10, h11⟩
          · obtain ⟨rfl, R4, hR, h3, h4, h5, h6, h7⟩ := h9
            have hv : ∀ k, k < (moL wd).length → R4 2 k = s.1.getD k 0 := fun k hk => by rw [h7 2 (by decide) (by decide) (by decide) (by decide)]; exact hv3 k hk
            have hg7 : R4 7 0 = R3 7 0 := by rw [h7 7 (by decide) (by decide) (by decide) (by decide)]
            have hg8 : R4 8 0 = R3 8 0 := by rw [h7 8 (by decide) (by decide) (by decide) (by decide)]
            have hg9 : R4 9 0 = R3 9 0 := by rw [h7 9 (by decide) (by decide) (by decide) (by decide)]
            have hm4 : wd = 4 → nh < 4 := mb4 hmb hD.2.1
            have hm8 : wd < 4 → nt < 8 := mb8 hmb hD.2.2.2
            have hix : wd = 5 → ev_ix (R4 2 0) 7 (R4 2 0).toNatClampNeg := fun z => by
              subst z
              rw [hv 0 (by decide)]
              obtain ⟨j, hj, ej⟩ := inI_k (k := 6) (hs.2.2.2 0 (by decide)) (by decide)
              rw [ej]
              exact ⟨vp_in_nI (by omega) (by decide), rfl⟩
            refine st_if_ne (q := 55) (tgt := 57) dX1_takeLine_52 rfl rfl (fun c_52 => ?_) (fun c_52 => False.elim (absurd c_52 (by decide)))
            refine st_aload_n (q := 58) dX1_takeLine_57 rfl rfl rfl ?_
            refine g_get (q := 61) dX1_takeLine_58 rfl fl_X1_59.g hR rfl ?_
            refine st_iconst (q := 62) dX1_takeLine_61 rfl ic_3 ?_
            refine st_icmp_eq (q := 65) (tgt := 75) dX1_takeLine_62 rfl rfl (fun c_62 => ?_) (fun c_62 => ?_)
            · have hr3 : r.1 = 3 := nI_ij (b := 3) (by have := tokF_le hs.2.1 htk; omega) (by decide) (by rw [← h4]; exact c_62)
              refine st_aload_n (q := 76) dX1_takeLine_75 rfl rfl rfl ?_
              refine st_iload_n (q := 77) dX1_takeLine_76 rfl rfl rfl ?_
              refine sm_V1 (q := 80) (M' := mX1_tellLine) dX1_takeLine_77 rfl ok_X1_tellLine mk_X1_tellLine ml_X1_86 ⟨Nat.le_of_ble_eq_true rfl, Nat.le_of_ble_eq_true rfl⟩ rfl (Nat.le_of_ble_eq_true rfl) (g_rv hR rfl) ⟨rfl, rfl⟩ (c_X1_tellLine hR hQ hD hw8 hm4 hm8 (jx := (R4 2 0).toNatClampNeg) hix) ?_
              intro _ n w h9 _
              obtain ⟨rfl, rfl, ⟨R5, hR, hL⟩, hQ, hF_⟩ := h9
              replace hF := FrW.tr hF hF_
              refine st_iconst (q := 81) dX1_takeLine_80 rfl ic_1 ?_
              refine st_nreturn dX1_takeLine_81 rfl (by rfl) ?_
              have hl : lineF (Tp 0) tl q D nh nt (R 7 0) (R 8 0) (R 9 0) = .inr (lnS D nh nt (R 7 0) (R 8 0) (R 9 0) wd r.2.2.1 s.1) := by rw [hl0, hnm, lineE]; rw [htk]; dsimp only; rw [if_pos hr3]
              refine ⟨rfl, hF, ?_⟩
              rw [hl]
              refine ⟨rfl, R5, hR, ?_, ?_, ?_, ?_, ?_, ?_⟩
              · show TR (tlT D nh nt wd (s.1.getD 0 0) (s.1.getD 1 0) (s.1.getD 2 0)) 45 n w
                rw [← tlT_v hw8 hv]
                exact hQ
              · rw [hL.2.2.2 3 (by decide) (by decide) (by decide)]; exact h3
              · rw [hL.1, hg7, hR3g 7 (by decide) (by decide) (by decide) (by decide) (by decide)]; rfl
              · rw [hL.2.1, hg8, hR3g 8 (by decide) (by decide) (by decide) (by decide) (by decide)]; rfl
              · rw [hL.2.2.1, hg9, hR3g 9 (by decide) (by decide) (by decide) (by decide) (by decide), hv 0 (by have := moL_len wd; omega)]; rfl
              · rw [hL.2.2.2 10 (by decide) (by decide) (by decide), h7 10 (by decide) (by decide) (by decide) (by decide), hR3g 10 (by decide) (by decide) (by decide) (by decide) (by decide)]
            · have hr3 : ¬ r.1 = 3 := fun z => c_62 (by rw [h4, z]; rfl)
              refine st_aload_n (q := 66) dX1_takeLine_65 rfl rfl rfl ?_
              refine st_iconst (q := 67) dX1_takeLine_66 rfl ic_2 ?_
              refine st_aload_n (q := 68) dX1_takeLine_67 rfl rfl rfl ?_
              refine g_get (q := 71) dX1_takeLine_68 rfl fl_X1_76.g hR rfl ?_
              refine sm_V2 (q := 74) (M' := mX1_refuse) dX1_takeLine_71 rfl ok_X1_refuse mk_X1_refuse ml_X1_68 ⟨Nat.le_of_ble_eq_true rfl, Nat.le_of_ble_eq_true rfl⟩ rfl (Nat.le_of_ble_eq_true rfl) (g_rv hR rfl) ⟨rfl, rfl⟩ (c_X1_refuse hR) ?_
              intro _ n w h9 _
              obtain ⟨rfl, rfl, hR, hF_⟩ := h9
              replace hQ := GR.fr gkX5 hQ (fun k h1 h2 => hF_ k (by omega) (by omega))
              replace hTp := GR.fr gkX4 hTp (fun k h1 h2 => hF_ k (by omega) (by omega))
              replace hF := FrW.l hF hF_
              refine st_nreturn dX1_takeLine_74 rfl (by rfl) ?_
              have hl : lineF (Tp 0) tl q D nh nt (R 7 0) (R 8 0) (R 9 0) = .inl (2, r.2.1) := by rw [hl0, hnm, lineE]; rw [htk]; dsimp only; rw [if_neg hr3]
              refine ⟨rfl, hF, ?_⟩
              rw [hl]
              exact ⟨rfl, _, D, hR, hQ, rfl, h5⟩
      · refine st_if_eq (q := 40) (tgt := 55) dX1_takeLine_37 rfl rfl (fun c_37 => ?_) (fun c_37 => False.elim (c_37 rfl))
        refine st_iconst (q := 56) dX1_takeLine_55 rfl ic_0 ?_
        refine st_nreturn dX1_takeLine_56 rfl (by rfl) ?_
        have hl : lineF (Tp 0) tl q D nh nt (R 7 0) (R 8 0) (R 9 0) = .inl (mbF wd (R 7 0) (R 8 0) nh nt, q.2.1) := by rw [lineF, hwd, if_pos ⟨hk1, hw8⟩, if_neg hmb]
        refine ⟨rfl, hF, ?_⟩
        rw [hl]
        exact ⟨rfl, R2, D, hR, hQ, h10, by rw [h11]; exact e5⟩
    · have hw9 : wd = 8 := by have := wdF_le (b := Tp 0) (f := q.2.1) (t := q.2.2.1) 8 0; omega
      refine st_iload_n (q := 18) dX1_takeLine_17 rfl rfl rfl ?_
      refine st_iconst (q := 19) dX1_takeLine_18 rfl ic_m1 ?_
      refine st_icmp_ne (q := 22) (tgt := 32) dX1_takeLine_19 rfl rfl (fun c_19 => False.elim (c_19 (by rw [hw9]; rfl))) (fun c_19 => ?_)
      refine st_aload_n (q := 23) dX1_takeLine_22 rfl rfl rfl ?_
      refine st_iconst (q := 24) dX1_takeLine_23 rfl ic_2 ?_
      refine st_aload_n (q := 25) dX1_takeLine_24 rfl rfl rfl ?_
      refine g_get (q := 28) dX1_takeLine_25 rfl fl_X1_76.g hR rfl ?_
      refine sm_V2 (q := 31) (M' := mX1_refuse) dX1_takeLine_28 rfl ok_X1_refuse mk_X1_refuse ml_X1_68 ⟨Nat.le_of_ble_eq_true rfl, Nat.le_of_ble_eq_true rfl⟩ rfl (Nat.le_of_ble_eq_true rfl) (g_rv hR rfl) ⟨rfl, rfl⟩ (c_X1_refuse hR) ?_
      intro _ n w h9 _
      obtain ⟨rfl, rfl, hR, hF_⟩ := h9
      replace hQ := GR.fr gkX5 hQ (fun k h1 h2 => hF_ k (by omega) (by omega))
      replace hTp := GR.fr gkX4 hTp (fun k h1 h2 => hF_ k (by omega) (by omega))
      replace hF := FrW.l hF hF_
      refine st_nreturn dX1_takeLine_31 rfl (by rfl) ?_
      have hl : lineF (Tp 0) tl q D nh nt (R 7 0) (R 8 0) (R 9 0) = .inl (2, q.2.1) := by rw [lineF, if_neg (by rw [hwd]; exact fun z => absurd z.2 hw8)]
      refine ⟨rfl, hF, ?_⟩
      rw [hl]
      exact ⟨rfl, _, D, hR, hQ, rfl, e5⟩
