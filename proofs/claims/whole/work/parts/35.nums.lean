def moL (wd : Nat) : List Int32 := if wd = 4 then [20, 40, 3] else if wd = 5 then [6, 8] else if wd = 6 then [8] else if wd = 7 then [20] else [3, 9, 9]
def leL (wd : Nat) : List Int32 := if wd < 4 then [0, 1, 0] else [0, 0, 0]
def moR (wd : Nat) : Nat := if wd = 4 then 1004 else if wd = 5 then 1006 else if wd = 6 then 1009 else if wd = 7 then 1005 else 1008
theorem moL_m {E : ev_E} : ∀ wd, wd < 8 → (moR wd, FieldType.int, (moL wd).length, ev_li (moL wd)) ∈ ev_ar E
  | 0, _ => List.mem_of_getElem? (i := 8) rfl
  | 1, _ => List.mem_of_getElem? (i := 8) rfl
  | 2, _ => List.mem_of_getElem? (i := 8) rfl
  | 3, _ => List.mem_of_getElem? (i := 8) rfl
  | 4, _ => List.mem_of_getElem? (i := 4) rfl
  | 5, _ => List.mem_of_getElem? (i := 6) rfl
  | 6, _ => List.mem_of_getElem? (i := 9) rfl
  | 7, _ => List.mem_of_getElem? (i := 5) rfl
  | k + 8, h => absurd h (by omega)
theorem moR_ge (wd : Nat) : 1000 ≤ moR wd := by unfold moR; split; decide; split; decide; split; decide; split <;> decide
theorem moL_len (wd : Nat) : 1 ≤ (moL wd).length ∧ (moL wd).length ≤ 3 := by unfold moL; split; decide; split; decide; split; decide; split <;> decide
theorem moL_n : ∀ wd, wd < 8 → Int32.ofNat (moL wd).length = nI (moL wd).length := by decide
set_option maxRecDepth 100000 in
set_option maxHeartbeats 4000000 in
theorem c_X1_mostOf {E : ev_E} {n : Nat} {w : ev_W} {wd : Nat} (hwd : wd < 8) : Ct E mX1_mostOf [.int (nI wd)] n w (ev_is (some (.ref (moR wd))) n w) := by
  refine Ct.of 0 (by decide) (Nat.le_of_ble_eq_true rfl) rfl ?_
  refine st_iload_n (q := 1) dX1_mostOf_0 rfl rfl rfl ?_
  refine st_tabK 0 (v := 4) (tgt := 32) dX1_mostOf_1 rfl rfl (by decide) (by decide) (fun c_1_0 => ?_) (fun c_1_0 t_1_0 => ?_)
  · refine st_getstatic (q := 35) dX1_mostOf_32 rfl (C := "ArkTerrace$Reader") (nm := "HOUSE_LINE_MOST") (ds := "[I") (v := .ref 1004) (List.mem_of_getElem? (i := 4) rfl) fl_X1_113 rfl ?_
    refine st_areturn dX1_mostOf_35 rfl (by first | exact Or.inl ⟨_, rfl⟩ | exact Or.inr ⟨_, rfl⟩) ?_
    obtain rfl : wd = 4 := nI_ij (by omega) (by decide) c_1_0
    exact ⟨rfl, rfl, rfl⟩
  refine st_tabK 1 (v := 5) (tgt := 36) dX1_mostOf_1 rfl rfl (by decide) (by decide) (fun c_1_1 => ?_) (fun c_1_1 t_1_1 => ?_)
  · refine st_getstatic (q := 39) dX1_mostOf_36 rfl (C := "ArkTerrace$Reader") (nm := "RISE_LINE_MOST") (ds := "[I") (v := .ref 1006) (List.mem_of_getElem? (i := 6) rfl) fl_X1_116 rfl ?_
    refine st_areturn dX1_mostOf_39 rfl (by first | exact Or.inl ⟨_, rfl⟩ | exact Or.inr ⟨_, rfl⟩) ?_
    obtain rfl : wd = 5 := nI_ij (by omega) (by decide) c_1_1
    exact ⟨rfl, rfl, rfl⟩
  refine st_tabK 2 (v := 6) (tgt := 40) dX1_mostOf_1 rfl rfl (by decide) (by decide) (fun c_1_2 => ?_) (fun c_1_2 t_1_2 => ?_)
  · refine st_getstatic (q := 43) dX1_mostOf_40 rfl (C := "ArkTerrace$Reader") (nm := "WIND_LINE_MOST") (ds := "[I") (v := .ref 1009) (List.mem_of_getElem? (i := 9) rfl) fl_X1_119 rfl ?_
    refine st_areturn dX1_mostOf_43 rfl (by first | exact Or.inl ⟨_, rfl⟩ | exact Or.inr ⟨_, rfl⟩) ?_
    obtain rfl : wd = 6 := nI_ij (by omega) (by decide) c_1_2
    exact ⟨rfl, rfl, rfl⟩
  refine st_tabK 3 (v := 7) (tgt := 44) dX1_mostOf_1 rfl rfl (by decide) (by decide) (fun c_1_3 => ?_) (fun c_1_3 t_1_3 => ?_)
  · refine st_getstatic (q := 47) dX1_mostOf_44 rfl (C := "ArkTerrace$Reader") (nm := "LEVEL_LINE_MOST") (ds := "[I") (v := .ref 1005) (List.mem_of_getElem? (i := 5) rfl) fl_X1_122 rfl ?_
    refine st_areturn dX1_mostOf_47 rfl (by first | exact Or.inl ⟨_, rfl⟩ | exact Or.inr ⟨_, rfl⟩) ?_
    obtain rfl : wd = 7 := nI_ij (by omega) (by decide) c_1_3
    exact ⟨rfl, rfl, rfl⟩
  refine st_tableOut (tgt := 48) dX1_mostOf_1 (by omega) rfl ?_
  refine st_getstatic (q := 51) dX1_mostOf_48 rfl (C := "ArkTerrace$Reader") (nm := "THING_LINE_MOST") (ds := "[I") (v := .ref 1008) (List.mem_of_getElem? (i := 8) rfl) fl_X1_125 rfl ?_
  refine st_areturn dX1_mostOf_51 rfl (by first | exact Or.inl ⟨_, rfl⟩ | exact Or.inr ⟨_, rfl⟩) ?_
  have hm : moR wd = 1008 := by
    unfold moR
    rw [if_neg (fun z => c_1_0 (by rw [z]; rfl)), if_neg (fun z => c_1_1 (by rw [z]; rfl)), if_neg (fun z => c_1_2 (by rw [z]; rfl)), if_neg (fun z => c_1_3 (by rw [z]; rfl))]
  exact ⟨by rw [hm], rfl, rfl⟩
def nmF (b : Nat → Int32) (tl wd : Nat) (dy : Int32) : Nat → Nat → Nat → (Nat × Nat) ⊕ (List Int32 × Nat)
  | 0, _, p => .inr ([], p)
  | r + 1, k, p => match tokF b tl p with
    | .inl e => .inl e
    | .inr q => if q.1 = 2 then (if inI q.2.2.2 ((leL wd).getD k 0) ((moL wd).getD k 0) = true then (if wd = 5 ∧ k = 0 ∧ btI dy q.2.2.2 = true then .inl (4, q.2.1) else (match nmF b tl wd dy r (k + 1) q.2.2.1 with
        | .inl e => .inl e
        | .inr s => .inr (q.2.2.2 :: s.1, s.2))) else .inl (3, q.2.1)) else .inl (2, q.2.1)
def preN (vs : List Int32) (x : (Nat × Nat) ⊕ (List Int32 × Nat)) : (Nat × Nat) ⊕ (List Int32 × Nat) := match x with
  | .inl e => .inl e
  | .inr s => .inr (vs ++ s.1, s.2)
theorem preN_nil (x : (Nat × Nat) ⊕ (List Int32 × Nat)) : preN [] x = x := by cases x <;> rfl
def NQ (R : gT) (N : Nat) (t : (Nat × Nat) ⊕ (List Int32 × Nat)) (n : Nat) (w : ev_W) : Option Value → Nat → ev_W → Prop := fun a m u => m = n ∧ FrQ w u ∧ match t with
  | .inl e => a = some (.int 0) ∧ ∃ R', RR R' n u ∧ R' 10 0 = nI e.1 ∧ R' 11 0 = nI e.2
  | .inr s => a = some (.int 1) ∧ ∃ R', RR R' n u ∧ R' 3 0 = nI s.2 ∧ (∀ k, k < N → R' 2 k = s.1.getD k 0) ∧ ∀ g, g ≠ 2 → g ≠ 3 → g ≠ 4 → g ≠ 5 → g ≠ 6 → R' g = R g
theorem tokF_le {b : Nat → Int32} {tl p : Nat} (hp : p ≤ tl) {q : Nat × Nat × Nat × Int32} (h : tokF b tl p = .inr q) : p ≤ q.2.1 ∧ q.2.1 ≤ q.2.2.1 ∧ q.2.2.1 ≤ tl ∧ (q.1 ≠ 0 → q.2.1 < q.2.2.1) ∧ (q.1 = 0 → q.2.1 = tl) ∧ q.1 ≤ 3 := by
  have g1 := spF_ge (q := isS) (b := b) (tl - p) p
  have g2 := spF_le (q := isS) (b := b) (tl - p) p
  unfold tokF at h
  generalize spF isS b (tl - p) p = f at *
  split at h
  · split at h
    · rename_i hl
      cases h
      have g3 := spF_le (q := isL) (b := b) (tl - f) f
      have g4 : f + 1 ≤ spF isL b (tl - f) f := by
        obtain ⟨k, hk⟩ : ∃ k, tl - f = k + 1 := ⟨tl - f - 1, by omega⟩
        rw [hk, spF, if_pos hl]; exact spF_ge _ _
      refine ⟨g1, ?_, ?_, fun _ => ?_, fun z => absurd z (by simp), by simp⟩ <;> dsimp only <;> omega
    · split at h
      · rename_i hl
        split at h
        · cases h
          have g3 := spF_le (q := isF) (b := b) (tl - f) f
          have g4 : f + 1 ≤ spF isF b (tl - f) f := by
            obtain ⟨k, hk⟩ : ∃ k, tl - f = k + 1 := ⟨tl - f - 1, by omega⟩
            rw [hk, spF, if_pos hl]; exact spF_ge _ _
          refine ⟨g1, ?_, ?_, fun _ => ?_, fun z => absurd z (by simp), by simp⟩ <;> dsimp only <;> omega
        · cases h
      · split at h
        · cases h
          refine ⟨g1, ?_, ?_, fun _ => ?_, fun z => absurd z (by simp), by simp⟩ <;> dsimp only <;> omega
        · cases h
  · cases h
    refine ⟨g1, ?_, ?_, fun z => absurd rfl z, fun _ => ?_, by simp⟩ <;> dsimp only <;> omega
set_option maxRecDepth 100000 in
set_option maxHeartbeats 4000000 in
theorem c_X1_takeNumbers {E : ev_E} {n : Nat} {w : ev_W} {R Tp : gT} (hR : RR R n w) (hTp : PR Tp 43 n w) {tl : Nat} (e1 : Tp 1 0 = nI tl) (ht : tl ≤ 160) {p0 : Nat} (hp0 : p0 ≤ tl) (e3 : R 3 0 = nI p0) {wd : Nat} (hwd : wd < 8) : Ct E mX1_takeNumbers [.ref 42, .int (nI wd)] n w (NQ R (moL wd).length (nmF (Tp 0) tl wd (R 9 0) (moL wd).length 0 p0) n w) := by
  refine Ct.of 3 (by decide) (Nat.le_of_ble_eq_true rfl) rfl ?_
  have hF : FrQ w w := FrQ.rf
  have hml := moL_len wd
  have lp : ∀ (aL : Nat), ((aL, FieldType.int, 3, ev_li (leL wd)) ∈ ev_ar E ∧ 1000 ≤ aL) → ∀ (r k : Nat), k + r = (moL wd).length → ∀ (p : Nat), p ≤ tl → ∀ (vs : List Int32), vs.length = k → preN vs (nmF (Tp 0) tl wd (R 9 0) r k p) = nmF (Tp 0) tl wd (R 9 0) (moL wd).length 0 p0 → ∀ (w1 : ev_W) (R1 : gT), RR R1 n w1 → PR Tp 43 n w1 → FrQ w w1 → R1 3 0 = nI p → (∀ j, j < k → R1 2 j = vs.getD j 0) → (∀ g, g ≠ 2 → g ≠ 3 → g ≠ 4 → g ≠ 5 → g ≠ 6 → R1 g = R g) → Ev E mX1_takeNumbers 23 [some (.ref 42), some (.int (nI wd)), some (.ref aL), some (.ref (moR wd)), some (.int (nI k))] [] n w1 (0, 0) (NQ R (moL wd).length (nmF (Tp 0) tl wd (R 9 0) (moL wd).length 0 p0) n w) := by
    clear hR hTp hF e3 hp0
    intro aL hLe r
    induction r with
    | zero =>
      intro k hk p hp vs hvl he w R1 hR hTp hF e3 hv hg
      obtain rfl : k = (moL wd).length := hk
      refine st_iload (q := 25) dX1_takeNumbers_23 rfl rfl ?_
      refine st_aload_n (q := 26) dX1_takeNumbers_25 rfl rfl rfl ?_
      refine st_alenX (q := 27) dX1_takeNumbers_26 rfl (moL_m wd hwd) (moR_ge wd) rfl ?_
      rw [moL_n wd hwd]
      refine st_icmp_ge (q := 30) (tgt := 146) dX1_takeNumbers_27 rfl rfl (fun c_27 => ?_) (fun c_27 => False.elim (c_27 (Int32.le_refl _)))
      refine st_iconst (q := 147) dX1_takeNumbers_146 rfl ic_1 ?_
      refine st_nreturn dX1_takeNumbers_147 rfl (by rfl) ?_
      refine ⟨rfl, hF, ?_⟩
      rw [← he, nmF, preN, List.append_nil]
      exact ⟨rfl, R1, hR, e3, hv, hg⟩
    | succ r ih =>
      intro k hk p hp vs hvl he w R1 hR hTp hF e3 hv hg
      refine st_iload (q := 25) dX1_takeNumbers_23 rfl rfl ?_
      refine st_aload_n (q := 26) dX1_takeNumbers_25 rfl rfl rfl ?_
      refine st_alenX (q := 27) dX1_takeNumbers_26 rfl (moL_m wd hwd) (moR_ge wd) rfl ?_
      rw [moL_n wd hwd]
      refine st_icmp_ge (q := 30) (tgt := 146) dX1_takeNumbers_27 rfl rfl (fun c_27 => False.elim (absurd c_27 (nI_ge (a := k) (b := (moL wd).length) (by omega) (by omega)))) (fun c_27 => ?_)
      refine st_iload (q := 32) dX1_takeNumbers_30 rfl rfl ?_
      refine st_aload_n (q := 33) dX1_takeNumbers_32 rfl rfl rfl ?_
      refine g_getA (q := 36) dX1_takeNumbers_33 rfl fl_X1_25.g hR rfl ?_
      refine g_alen (q := 37) dX1_takeNumbers_36 rfl gkX1 hR (i := 2) rfl rfl rfl ?_
      refine st_icmp_ge (q := 40) (tgt := 146) dX1_takeNumbers_37 rfl rfl (fun c_37 => False.elim (absurd c_37 (nI_ge (a := k) (b := 3) (by omega) (by omega)))) (fun c_37 => ?_)
      refine st_aload_n (q := 41) dX1_takeNumbers_40 rfl rfl rfl ?_
      refine sm_V0 (q := 44) (M' := mX1_takeToken) dX1_takeNumbers_41 rfl ok_X1_takeToken mk_X1_takeToken ml_X1_55 ⟨Nat.le_of_ble_eq_true rfl, Nat.le_of_ble_eq_true rfl⟩ rfl (Nat.le_of_ble_eq_true rfl) (g_rv hR rfl) ⟨rfl, rfl⟩ (c_X1_takeToken hR hTp e1 ht hp e3) ?_
      intro v9 n w h9 _
      obtain ⟨rfl, hF_, h9⟩ := h9
      replace hTp := GR.fr gkX4 hTp (fun k h1 h2 => hF_ k (by omega) (by omega))
      replace hF := FrQ.tr hF hF_
      obtain ⟨tk, htk⟩ : ∃ t, tokF (Tp 0) tl p = t := ⟨_, rfl⟩
      rw [htk] at h9
      rcases tk with e | q
      · obtain ⟨rfl, R2, hR, h10, h11⟩ := h9
        refine st_if_ne (q := 47) (tgt := 49) dX1_takeNumbers_44 rfl rfl (fun c_44 => False.elim (c_44 rfl)) (fun c_44 => ?_)
        refine st_iconst (q := 48) dX1_takeNumbers_47 rfl ic_0 ?_
        refine st_nreturn dX1_takeNumbers_48 rfl (by rfl) ?_
        refine ⟨rfl, hF, ?_⟩
        rw [← he, nmF, htk]
        exact ⟨rfl, R2, hR, h10, h11⟩
      · obtain ⟨rfl, R2, hR, h3, h4, h5, h6, h7⟩ := h9
        have hd9 : R2 9 0 = R 9 0 := by rw [h7 9 (by decide) (by decide) (by decide) (by decide), hg 9 (by decide) (by decide) (by decide) (by decide) (by decide)]
        have hbt : ∀ v : Int32, ¬ (R2 9 0 >>> (v &&& 31)) &&& 1 = 0 → btI (R 9 0) v = true := fun v z => by rw [btI, ← hd9, decide_eq_false z]; rfl
        have hbn : ∀ v : Int32, (R2 9 0 >>> (v &&& 31)) &&& 1 = 0 → btI (R 9 0) v = true → False := fun v z z' => by rw [btI, ← hd9, decide_eq_true z] at z'; cases z'
        refine st_if_ne (q := 47) (tgt := 49) dX1_takeNumbers_44 rfl rfl (fun c_44 => ?_) (fun c_44 => False.elim (absurd c_44 (by decide)))
        refine st_aload_n (q := 50) dX1_takeNumbers_49 rfl rfl rfl ?_
        refine g_get (q := 53) dX1_takeNumbers_50 rfl fl_X1_59.g hR rfl ?_
        refine st_iconst (q := 54) dX1_takeNumbers_53 rfl ic_2 ?_
        refine st_icmp_eq (q := 57) (tgt := 67) dX1_takeNumbers_54 rfl rfl (fun c_54 => ?_) (fun c_54 => ?_)
        · have hk2 : q.1 = 2 := nI_ij (b := 2) (by have := tokF_le hp htk; omega) (by decide) (by rw [← h4]; exact c_54)
          have h6 := h6 hk2
          refine st_aload_n (q := 68) dX1_takeNumbers_67 rfl rfl rfl ?_
          refine g_get (q := 71) dX1_takeNumbers_68 rfl fl_X1_106.g hR rfl ?_
          refine st_aload_n (q := 72) dX1_takeNumbers_71 rfl rfl rfl ?_
          refine st_iload (q := 74) dX1_takeNumbers_72 rfl rfl ?_
          refine st_ialoadX (q := 75) dX1_takeNumbers_74 rfl hLe.1 hLe.2 (ev_ix_nI (j := k) (by omega) (by decide)) (x := (leL wd).getD k 0) rfl ?_
          refine st_aload_n (q := 76) dX1_takeNumbers_75 rfl rfl rfl ?_
          refine st_iload (q := 78) dX1_takeNumbers_76 rfl rfl ?_
          refine st_ialoadX (q := 79) dX1_takeNumbers_78 rfl (moL_m wd hwd) (moR_ge wd) (ev_ix_nI (j := k) (by omega) (by omega)) (x := (moL wd).getD k 0) rfl ?_
          rw [h6]
          refine sp_SN3 (q := 82) (M' := mX6_within) dX1_takeNumbers_79 rfl ok_X6_within mk_X6_within ml_X1_109 ⟨Nat.le_of_ble_eq_true rfl, Nat.le_of_ble_eq_true rfl⟩ rfl (Nat.le_of_ble_eq_true rfl) ⟨rfl, rfl⟩ (c_X6_within) ?_
          refine st_if_ne (q := 85) (tgt := 95) dX1_takeNumbers_82 rfl rfl (fun c_82 => ?_) (fun c_82 => ?_)
          · refine st_iload_n (q := 96) dX1_takeNumbers_95 rfl rfl rfl ?_
            refine st_iconst (q := 97) dX1_takeNumbers_96 rfl ic_5 ?_
            refine st_icmp_ne (q := 100) (tgt := 129) dX1_takeNumbers_97 rfl rfl (fun c_97 => ?_) (fun c_97 => ?_)
            · have hin := zI_1.mp c_82
              refine st_aload_n (q := 130) dX1_takeNumbers_129 rfl rfl rfl ?_
              refine g_getA (q := 133) dX1_takeNumbers_130 rfl fl_X1_25.g hR rfl ?_
              refine st_iload (q := 135) dX1_takeNumbers_133 rfl rfl ?_
              refine st_aload_n (q := 136) dX1_takeNumbers_135 rfl rfl rfl ?_
              refine g_get (q := 139) dX1_takeNumbers_136 rfl fl_X1_106.g hR rfl ?_
              refine r_iast (q := 140) dX1_takeNumbers_139 rfl hR (by exact ev_ix_nI (j := k) (by omega) (by decide)) (fun w hR hF_ => ?_)
              replace hTp := GR.fr gkX4 hTp (fun k h1 h2 => hF_ k (by omega) (by omega))
              replace hF := FrQ.tr hF hF_
              refine st_iinc (q := 143) (L' := [_, _, _, _, _]) dX1_takeNumbers_140 rfl rfl (nI_succ _).symm (Nat.le_of_ble_eq_true rfl) rfl ?_
              refine st_goto (q := 23) dX1_takeNumbers_143 rfl ?_
              have hns : ¬ (wd = 5 ∧ k = 0 ∧ btI (R 9 0) q.2.2.2 = true) := by
                intro z
                first
                  | exact c_97 (by rw [z.1]; rfl)
                  | exact c_102 (by rw [z.2.1]; rfl)
                  | exact hbn _ (by rw [← h6]; exact c_116) z.2.2
              refine ih (k + 1) (by omega) q.2.2.1 (by have := tokF_le hp htk; omega) (vs ++ [q.2.2.2]) (by rw [List.length_append, hvl]; rfl) ?_ w _ hR hTp hF ?_ ?_ ?_
              · rw [← he, nmF, htk]
                dsimp only
                rw [if_pos hk2, if_pos hin, if_neg hns]
                cases nmF (Tp 0) tl wd (R 9 0) r (k + 1) q.2.2.1 with
                | inl e => rfl
                | inr s => simp only [preN, List.append_assoc, List.singleton_append]
              · rw [tup_n (by decide)]; exact h3
              · intro j hj
                rw [tup_s]
                by_cases e : j = k
                · subst e
                  rw [pk_us, h6, List.getD_eq_getElem?_getD, List.getElem?_append_right (by omega), hvl, Nat.sub_self]
                  rfl
                · rw [pk_un e, h7 2 (by decide) (by decide) (by decide) (by decide), hv j (by omega), List.getD_eq_getElem?_getD, List.getD_eq_getElem?_getD, List.getElem?_append_left (by omega)]
              · intro g g2 g3 g4 g5 g6
                rw [tup_n g2, h7 g g3 g4 g5 g6]
                exact hg g g2 g3 g4 g5 g6
            · refine st_iload (q := 102) dX1_takeNumbers_100 rfl rfl ?_
              refine st_if_ne (q := 105) (tgt := 129) dX1_takeNumbers_102 rfl rfl (fun c_102 => ?_) (fun c_102 => ?_)
              · have hin := zI_1.mp c_82
                refine st_aload_n (q := 130) dX1_takeNumbers_129 rfl rfl rfl ?_
                refine g_getA (q := 133) dX1_takeNumbers_130 rfl fl_X1_25.g hR rfl ?_
                refine st_iload (q := 135) dX1_takeNumbers_133 rfl rfl ?_
                refine st_aload_n (q := 136) dX1_takeNumbers_135 rfl rfl rfl ?_
                refine g_get (q := 139) dX1_takeNumbers_136 rfl fl_X1_106.g hR rfl ?_
                refine r_iast (q := 140) dX1_takeNumbers_139 rfl hR (by exact ev_ix_nI (j := k) (by omega) (by decide)) (fun w hR hF_ => ?_)
                replace hTp := GR.fr gkX4 hTp (fun k h1 h2 => hF_ k (by omega) (by omega))
                replace hF := FrQ.tr hF hF_
                refine st_iinc (q := 143) (L' := [_, _, _, _, _]) dX1_takeNumbers_140 rfl rfl (nI_succ _).symm (Nat.le_of_ble_eq_true rfl) rfl ?_
                refine st_goto (q := 23) dX1_takeNumbers_143 rfl ?_
                have hns : ¬ (wd = 5 ∧ k = 0 ∧ btI (R 9 0) q.2.2.2 = true) := by
                  intro z
                  first
                    | exact c_97 (by rw [z.1]; rfl)
                    | exact c_102 (by rw [z.2.1]; rfl)
                    | exact hbn _ (by rw [← h6]; exact c_116) z.2.2
                refine ih (k + 1) (by omega) q.2.2.1 (by have := tokF_le hp htk; omega) (vs ++ [q.2.2.2]) (by rw [List.length_append, hvl]; rfl) ?_ w _ hR hTp hF ?_ ?_ ?_
                · rw [← he, nmF, htk]
                  dsimp only
                  rw [if_pos hk2, if_pos hin, if_neg hns]
                  cases nmF (Tp 0) tl wd (R 9 0) r (k + 1) q.2.2.1 with
                  | inl e => rfl
                  | inr s => simp only [preN, List.append_assoc, List.singleton_append]
                · rw [tup_n (by decide)]; exact h3
                · intro j hj
                  rw [tup_s]
                  by_cases e : j = k
                  · subst e
                    rw [pk_us, h6, List.getD_eq_getElem?_getD, List.getElem?_append_right (by omega), hvl, Nat.sub_self]
                    rfl
                  · rw [pk_un e, h7 2 (by decide) (by decide) (by decide) (by decide), hv j (by omega), List.getD_eq_getElem?_getD, List.getD_eq_getElem?_getD, List.getElem?_append_left (by omega)]
                · intro g g2 g3 g4 g5 g6
                  rw [tup_n g2, h7 g g3 g4 g5 g6]
                  exact hg g g2 g3 g4 g5 g6
              · refine st_aload_n (q := 106) dX1_takeNumbers_105 rfl rfl rfl ?_
                refine g_get (q := 109) dX1_takeNumbers_106 rfl fl_X1_43.g hR rfl ?_
                refine st_aload_n (q := 110) dX1_takeNumbers_109 rfl rfl rfl ?_
                refine g_get (q := 113) dX1_takeNumbers_110 rfl fl_X1_106.g hR rfl ?_
                refine st_ishr (q := 114) dX1_takeNumbers_113 rfl ?_
                refine st_iconst (q := 115) dX1_takeNumbers_114 rfl ic_1 ?_
                refine st_iand (q := 116) dX1_takeNumbers_115 rfl ?_
                refine st_if_eq (q := 119) (tgt := 129) dX1_takeNumbers_116 rfl rfl (fun c_116 => ?_) (fun c_116 => ?_)
                · have hin := zI_1.mp c_82
                  refine st_aload_n (q := 130) dX1_takeNumbers_129 rfl rfl rfl ?_
                  refine g_getA (q := 133) dX1_takeNumbers_130 rfl fl_X1_25.g hR rfl ?_
                  refine st_iload (q := 135) dX1_takeNumbers_133 rfl rfl ?_
                  refine st_aload_n (q := 136) dX1_takeNumbers_135 rfl rfl rfl ?_
                  refine g_get (q := 139) dX1_takeNumbers_136 rfl fl_X1_106.g hR rfl ?_
                  refine r_iast (q := 140) dX1_takeNumbers_139 rfl hR (by exact ev_ix_nI (j := k) (by omega) (by decide)) (fun w hR hF_ => ?_)
                  replace hTp := GR.fr gkX4 hTp (fun k h1 h2 => hF_ k (by omega) (by omega))
                  replace hF := FrQ.tr hF hF_
                  refine st_iinc (q := 143) (L' := [_, _, _, _, _]) dX1_takeNumbers_140 rfl rfl (nI_succ _).symm (Nat.le_of_ble_eq_true rfl) rfl ?_
                  refine st_goto (q := 23) dX1_takeNumbers_143 rfl ?_
                  have hns : ¬ (wd = 5 ∧ k = 0 ∧ btI (R 9 0) q.2.2.2 = true) := by
                    intro z
                    first
                      | exact c_97 (by rw [z.1]; rfl)
                      | exact c_102 (by rw [z.2.1]; rfl)
                      | exact hbn _ (by rw [← h6]; exact c_116) z.2.2
                  refine ih (k + 1) (by omega) q.2.2.1 (by have := tokF_le hp htk; omega) (vs ++ [q.2.2.2]) (by rw [List.length_append, hvl]; rfl) ?_ w _ hR hTp hF ?_ ?_ ?_
                  · rw [← he, nmF, htk]
                    dsimp only
                    rw [if_pos hk2, if_pos hin, if_neg hns]
                    cases nmF (Tp 0) tl wd (R 9 0) r (k + 1) q.2.2.1 with
                    | inl e => rfl
                    | inr s => simp only [preN, List.append_assoc, List.singleton_append]
                  · rw [tup_n (by decide)]; exact h3
                  · intro j hj
                    rw [tup_s]
                    by_cases e : j = k
                    · subst e
                      rw [pk_us, h6, List.getD_eq_getElem?_getD, List.getElem?_append_right (by omega), hvl, Nat.sub_self]
                      rfl
                    · rw [pk_un e, h7 2 (by decide) (by decide) (by decide) (by decide), hv j (by omega), List.getD_eq_getElem?_getD, List.getD_eq_getElem?_getD, List.getElem?_append_left (by omega)]
                  · intro g g2 g3 g4 g5 g6
                    rw [tup_n g2, h7 g g3 g4 g5 g6]
                    exact hg g g2 g3 g4 g5 g6
                · have hin := zI_1.mp c_82
                  refine st_aload_n (q := 120) dX1_takeNumbers_119 rfl rfl rfl ?_
                  refine st_iconst (q := 121) dX1_takeNumbers_120 rfl ic_4 ?_
                  refine st_aload_n (q := 122) dX1_takeNumbers_121 rfl rfl rfl ?_
                  refine g_get (q := 125) dX1_takeNumbers_122 rfl fl_X1_76.g hR rfl ?_
                  refine sm_V2 (q := 128) (M' := mX1_refuse) dX1_takeNumbers_125 rfl ok_X1_refuse mk_X1_refuse ml_X1_68 ⟨Nat.le_of_ble_eq_true rfl, Nat.le_of_ble_eq_true rfl⟩ rfl (Nat.le_of_ble_eq_true rfl) (g_rv hR rfl) ⟨rfl, rfl⟩ (c_X1_refuse hR) ?_
                  intro _ n w h9 _
                  obtain ⟨rfl, rfl, hR, hF_⟩ := h9
                  replace hF := FrQ.tr hF hF_
                  refine st_nreturn dX1_takeNumbers_128 rfl (by rfl) ?_
                  refine ⟨rfl, hF, ?_⟩
                  rw [← he, nmF, htk]
                  dsimp only
                  rw [if_pos hk2, if_pos hin, if_pos ⟨nI_ij (b := 5) (by omega) (by decide) c_97, nI_z (by omega) c_102, hbt _ (by rw [← h6]; exact c_116)⟩]
                  exact ⟨rfl, _, hR, rfl, h5⟩
          · refine st_aload_n (q := 86) dX1_takeNumbers_85 rfl rfl rfl ?_
            refine st_iconst (q := 87) dX1_takeNumbers_86 rfl ic_3 ?_
            refine st_aload_n (q := 88) dX1_takeNumbers_87 rfl rfl rfl ?_
            refine g_get (q := 91) dX1_takeNumbers_88 rfl fl_X1_76.g hR rfl ?_
            refine sm_V2 (q := 94) (M' := mX1_refuse) dX1_takeNumbers_91 rfl ok_X1_refuse mk_X1_refuse ml_X1_68 ⟨Nat.le_of_ble_eq_true rfl, Nat.le_of_ble_eq_true rfl⟩ rfl (Nat.le_of_ble_eq_true rfl) (g_rv hR rfl) ⟨rfl, rfl⟩ (c_X1_refuse hR) ?_
            intro _ n w h9 _
            obtain ⟨rfl, rfl, hR, hF_⟩ := h9
            replace hF := FrQ.tr hF hF_
            refine st_nreturn dX1_takeNumbers_94 rfl (by rfl) ?_
            refine ⟨rfl, hF, ?_⟩
            rw [← he, nmF, htk]
            dsimp only
            rw [if_pos hk2, if_neg (by rw [zI_0.mp c_82]; decide)]
            exact ⟨rfl, _, hR, rfl, h5⟩
        · have hk2 : ¬ q.1 = 2 := fun z => c_54 (by rw [h4, z]; rfl)
          refine st_aload_n (q := 58) dX1_takeNumbers_57 rfl rfl rfl ?_
          refine st_iconst (q := 59) dX1_takeNumbers_58 rfl ic_2 ?_
          refine st_aload_n (q := 60) dX1_takeNumbers_59 rfl rfl rfl ?_
          refine g_get (q := 63) dX1_takeNumbers_60 rfl fl_X1_76.g hR rfl ?_
          refine sm_V2 (q := 66) (M' := mX1_refuse) dX1_takeNumbers_63 rfl ok_X1_refuse mk_X1_refuse ml_X1_68 ⟨Nat.le_of_ble_eq_true rfl, Nat.le_of_ble_eq_true rfl⟩ rfl (Nat.le_of_ble_eq_true rfl) (g_rv hR rfl) ⟨rfl, rfl⟩ (c_X1_refuse hR) ?_
          intro _ n w h9 _
          obtain ⟨rfl, rfl, hR, hF_⟩ := h9
          replace hF := FrQ.tr hF hF_
          refine st_nreturn dX1_takeNumbers_66 rfl (by rfl) ?_
          refine ⟨rfl, hF, ?_⟩
          rw [← he, nmF, htk]
          dsimp only
          rw [if_neg hk2]
          exact ⟨rfl, _, hR, rfl, h5⟩
  refine st_iload_n (q := 1) dX1_takeNumbers_0 rfl rfl rfl ?_
  refine st_iconst (q := 2) dX1_takeNumbers_1 rfl ic_4 ?_
  refine st_icmp_ge (q := 5) (tgt := 11) dX1_takeNumbers_2 rfl rfl (fun c_2 => ?_) (fun c_2 => ?_)
  · refine st_getstatic (q := 14) dX1_takeNumbers_11 rfl (C := "ArkTerrace$Reader") (nm := "HOUSE_LEAST") (ds := "[I") (v := .ref 1003) (List.mem_of_getElem? (i := 3) rfl) fl_X1_99 rfl ?_
    refine st_astore_n (q := 15) (L' := [_, _, _, _, _]) dX1_takeNumbers_14 rfl rfl (Nat.le_of_ble_eq_true rfl) rfl ?_
    refine st_iload_n (q := 16) dX1_takeNumbers_15 rfl rfl rfl ?_
    refine sp_S1 (q := 19) (M' := mX1_mostOf) dX1_takeNumbers_16 rfl ok_X1_mostOf mk_X1_mostOf ml_X1_102 ⟨Nat.le_of_ble_eq_true rfl, Nat.le_of_ble_eq_true rfl⟩ rfl (Nat.le_of_ble_eq_true rfl) ⟨rfl, rfl⟩ (c_X1_mostOf hwd) ?_
    refine st_astore_n (q := 20) (L' := [_, _, _, _, _]) dX1_takeNumbers_19 rfl rfl (Nat.le_of_ble_eq_true rfl) rfl ?_
    refine st_iconst (q := 21) dX1_takeNumbers_20 rfl ic_0 ?_
    refine st_istore (q := 23) (L' := [_, _, _, _, _]) dX1_takeNumbers_21 rfl (Nat.le_of_ble_eq_true rfl) rfl ?_
    refine lp _ ?_ (moL wd).length 0 (by omega) p0 hp0 [] rfl (preN_nil _) w R hR hTp hF e3 (fun j hj => absurd hj (Nat.not_lt_zero j)) (fun _ _ _ _ _ _ => rfl)
    first
      | exact ⟨by rw [leL, if_neg (fun z => absurd c_2 (nI_ge (a := wd) (b := 4) z (by decide)))]; exact List.mem_of_getElem? (i := 3) rfl, by decide⟩
      | exact ⟨by rw [leL, if_pos (by rcases Nat.lt_or_ge wd 4 with z | z; exact z; exact absurd (nI_le (a := 4) z (by omega)) c_2)]; exact List.mem_of_getElem? (i := 7) rfl, by decide⟩
  · refine st_getstatic (q := 8) dX1_takeNumbers_5 rfl (C := "ArkTerrace$Reader") (nm := "THING_LINE_LEAST") (ds := "[I") (v := .ref 1007) (List.mem_of_getElem? (i := 7) rfl) fl_X1_96 rfl ?_
    refine st_goto (q := 14) dX1_takeNumbers_8 rfl ?_
    refine st_astore_n (q := 15) (L' := [_, _, _, _, _]) dX1_takeNumbers_14 rfl rfl (Nat.le_of_ble_eq_true rfl) rfl ?_
    refine st_iload_n (q := 16) dX1_takeNumbers_15 rfl rfl rfl ?_
    refine sp_S1 (q := 19) (M' := mX1_mostOf) dX1_takeNumbers_16 rfl ok_X1_mostOf mk_X1_mostOf ml_X1_102 ⟨Nat.le_of_ble_eq_true rfl, Nat.le_of_ble_eq_true rfl⟩ rfl (Nat.le_of_ble_eq_true rfl) ⟨rfl, rfl⟩ (c_X1_mostOf hwd) ?_
    refine st_astore_n (q := 20) (L' := [_, _, _, _, _]) dX1_takeNumbers_19 rfl rfl (Nat.le_of_ble_eq_true rfl) rfl ?_
    refine st_iconst (q := 21) dX1_takeNumbers_20 rfl ic_0 ?_
    refine st_istore (q := 23) (L' := [_, _, _, _, _]) dX1_takeNumbers_21 rfl (Nat.le_of_ble_eq_true rfl) rfl ?_
    refine lp _ ?_ (moL wd).length 0 (by omega) p0 hp0 [] rfl (preN_nil _) w R hR hTp hF e3 (fun j hj => absurd hj (Nat.not_lt_zero j)) (fun _ _ _ _ _ _ => rfl)
    first
      | exact ⟨by rw [leL, if_neg (fun z => absurd c_2 (nI_ge (a := wd) (b := 4) z (by decide)))]; exact List.mem_of_getElem? (i := 3) rfl, by decide⟩
      | exact ⟨by rw [leL, if_pos (by rcases Nat.lt_or_ge wd 4 with z | z; exact z; exact absurd (nI_le (a := 4) z (by omega)) c_2)]; exact List.mem_of_getElem? (i := 7) rfl, by decide⟩
