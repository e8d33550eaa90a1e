set_option maxRecDepth 100000 in
set_option maxHeartbeats 4000000 in
theorem c_X7_number {E : ev_E} {n : Nat} {w : ev_W} {S : gT} {f : Nat → Int32} {w0 : ev_W} (hF : Fr 70 82 w0 w) (hM : MR S f 70 n w) {b : Nat → Int32} {tl : Nat} (hK : KX S b tl) {x : TX} (hT : PT S tl x) {lo hi : Int32} : Ct E mX7_number [.ref 70, .int lo, .int hi] n w (fun a u v => ∃ S', a = some (.int (numV lo hi x)) ∧ u = n ∧ MR S' f 70 n v ∧ PT S' tl (numX b tl lo hi x) ∧ FX S S' ∧ Fr 70 82 w0 v) := by
  refine Ct.of 1 (by decide) (Nat.le_of_ble_eq_true rfl) rfl ?_
  have sB : ∀ (S1 : gT) (w1 : ev_W) (e : Nat × Nat), MR S1 f 70 n w1 → Fr 70 82 w0 w1 → FX S S1 → PT S1 tl (.inl e) → numX b tl lo hi x = .inl e → numV lo hi x = lo → Ev E mX7_number 47 [some (.ref 70), some (.int lo), some (.int hi), none] [] n w1 (0, 0) (fun a u v => ∃ S', a = some (.int (numV lo hi x)) ∧ u = n ∧ MR S' f 70 n v ∧ PT S' tl (numX b tl lo hi x) ∧ FX S S' ∧ Fr 70 82 w0 v) := by
    clear hM hF
    intro S1 w e hM hF hX hP hN hV
    refine st_aload_n (q := 48) dX7_number_47 rfl rfl rfl ?_
    refine m_get (q := 51) dX7_number_48 rfl fl_X7_54.g hM (by decide) rfl ?_
    refine st_if_ne (q := 54) (tgt := 61) dX7_number_51 rfl rfl (fun c_51 => ?_) (fun c_51 => False.elim (e_ne hP c_51))
    refine st_iload_n (q := 62) dX7_number_61 rfl rfl rfl ?_
    refine st_istore_n (q := 63) (L' := [_, _, _, _]) dX7_number_62 rfl rfl (Nat.le_of_ble_eq_true rfl) rfl ?_
    refine st_aload_n (q := 64) dX7_number_63 rfl rfl rfl ?_
    refine sm_V0 (q := 67) (M' := mX7_step) dX7_number_64 rfl ok_X7_step mk_X7_step ml_X7_88 ⟨Nat.le_of_ble_eq_true rfl, Nat.le_of_ble_eq_true rfl⟩ rfl (Nat.le_of_ble_eq_true rfl) (g_rv hM rfl) ⟨rfl, rfl⟩ (c_X7_stepX hF hM (hK.fx hX) hP) ?_
    intro _ n w h9 _
    obtain ⟨S2, rfl, rfl, hM, hP2, hX2, hF⟩ := h9
    refine st_iload_n (q := 68) dX7_number_67 rfl rfl rfl ?_
    refine st_ireturn dX7_number_68 rfl ?_
    exact ⟨S2, by rw [hV], rfl, hM, by rw [hN]; exact hP2, hX.tr hX2, hF⟩
  cases x with
  | inl e =>
    refine st_aload_n (q := 1) dX7_number_0 rfl rfl rfl ?_
    refine m_get (q := 4) dX7_number_1 rfl fl_X7_54.g hM (by decide) rfl ?_
    refine st_if_ne (q := 7) (tgt := 20) dX7_number_4 rfl rfl (fun c_4 => ?_) (fun c_4 => False.elim (e_ne hT c_4))
    refine st_aload_n (q := 21) dX7_number_20 rfl rfl rfl ?_
    refine m_get (q := 24) dX7_number_21 rfl fl_X7_54.g hM (by decide) rfl ?_
    refine st_if_ne (q := 27) (tgt := 47) dX7_number_24 rfl rfl (fun c_24 => ?_) (fun c_24 => False.elim (e_ne hT c_24))
    exact sB S w e hM hF FX.rf hT rfl rfl
  | inr q =>
    have h0 : S 12 0 = 0 := hT.1
    have h15 : S 15 0 = nI q.2.1 := hT.2.2.1
    have h16 : S 16 0 = nI q.1 := hT.2.2.2.1
    have hq3 : q.1 ≤ 3 := hT.2.2.2.2.2.2.2
    by_cases hq2 : q.1 = 2
    · have h17 : S 17 0 = q.2.2.2 := hT.2.2.2.2.1 hq2
      have gd : inI q.2.2.2 lo hi = true → Ev E mX7_number 47 [some (.ref 70), some (.int lo), some (.int hi), none] [] n w (0, 0) (fun a u v => ∃ S', a = some (.int (numV lo hi (.inr q))) ∧ u = n ∧ MR S' f 70 n v ∧ PT S' tl (numX b tl lo hi (.inr q)) ∧ FX S S' ∧ Fr 70 82 w0 v) := by
        intro hin
        refine st_aload_n (q := 48) dX7_number_47 rfl rfl rfl ?_
        refine m_get (q := 51) dX7_number_48 rfl fl_X7_54.g hM (by decide) rfl ?_
        refine st_if_ne (q := 54) (tgt := 61) dX7_number_51 rfl rfl (fun c_51 => False.elim (c_51 h0)) (fun c_51 => ?_)
        refine st_aload_n (q := 55) dX7_number_54 rfl rfl rfl ?_
        refine m_get (q := 58) dX7_number_55 rfl fl_X7_73.g hM (by decide) rfl ?_
        refine st_goto (q := 62) dX7_number_58 rfl ?_
        rw [h17]
        refine st_istore_n (q := 63) (L' := [_, _, _, _]) dX7_number_62 rfl rfl (Nat.le_of_ble_eq_true rfl) rfl ?_
        refine st_aload_n (q := 64) dX7_number_63 rfl rfl rfl ?_
        refine sm_V0 (q := 67) (M' := mX7_step) dX7_number_64 rfl ok_X7_step mk_X7_step ml_X7_88 ⟨Nat.le_of_ble_eq_true rfl, Nat.le_of_ble_eq_true rfl⟩ rfl (Nat.le_of_ble_eq_true rfl) (g_rv hM rfl) ⟨rfl, rfl⟩ (c_X7_stepX hF hM (hK) hT) ?_
        intro _ n w h9 _
        obtain ⟨S2, rfl, rfl, hM, hP2, hX2, hF⟩ := h9
        refine st_iload_n (q := 68) dX7_number_67 rfl rfl rfl ?_
        refine st_ireturn dX7_number_68 rfl ?_
        exact ⟨S2, by rw [numV, if_pos hq2, if_pos hin], rfl, hM, by rw [numX, if_pos hq2, if_pos hin]; exact hP2, hX2, hF⟩
      refine st_aload_n (q := 1) dX7_number_0 rfl rfl rfl ?_
      refine m_get (q := 4) dX7_number_1 rfl fl_X7_54.g hM (by decide) rfl ?_
      refine st_if_ne (q := 7) (tgt := 20) dX7_number_4 rfl rfl (fun c_4 => False.elim (c_4 h0)) (fun c_4 => ?_)
      refine st_aload_n (q := 8) dX7_number_7 rfl rfl rfl ?_
      refine m_get (q := 11) dX7_number_8 rfl fl_X7_63.g hM (by decide) rfl ?_
      rw [h16, hq2]
      refine st_iconst (q := 12) dX7_number_11 rfl ic_2 ?_
      refine st_icmp_eq (q := 15) (tgt := 20) dX7_number_12 rfl rfl (fun c_12 => ?_) (fun c_12 => False.elim (c_12 rfl))
      refine st_aload_n (q := 21) dX7_number_20 rfl rfl rfl ?_
      refine m_get (q := 24) dX7_number_21 rfl fl_X7_54.g hM (by decide) rfl ?_
      refine st_if_ne (q := 27) (tgt := 47) dX7_number_24 rfl rfl (fun c_24 => False.elim (c_24 h0)) (fun c_24 => ?_)
      refine st_aload_n (q := 28) dX7_number_27 rfl rfl rfl ?_
      refine m_get (q := 31) dX7_number_28 rfl fl_X7_73.g hM (by decide) rfl ?_
      rw [h17]
      refine st_i2l (q := 32) dX7_number_31 rfl ?_
      refine st_iload_n (q := 33) dX7_number_32 rfl rfl rfl ?_
      refine st_i2l (q := 34) dX7_number_33 rfl ?_
      refine st_iload_n (q := 35) dX7_number_34 rfl rfl rfl ?_
      refine st_i2l (q := 36) dX7_number_35 rfl ?_
      refine sp_S3 (q := 39) (M' := mX7_in) dX7_number_36 rfl ok_X7_in mk_X7_in ml_X7_46 ⟨Nat.le_of_ble_eq_true rfl, Nat.le_of_ble_eq_true rfl⟩ rfl (Nat.le_of_ble_eq_true rfl) ⟨rfl, rfl⟩ (c_X7_inI rfl rfl) ?_
      refine st_if_ne (q := 42) (tgt := 47) dX7_number_39 rfl rfl (fun c_39 => ?_) (fun c_39 => ?_)
      · first
          | exact gd (zI_1.mp c_39)
          | exact sB _ w (3, q.2.1) hM hF ((FX.rf.up (by omega)).up (by omega)) ⟨rfl, h15, by simp, by simp⟩ (by rw [numX, if_pos hq2, if_neg (by rw [zI_0.mp c_39]; decide)]) (by rw [numV, if_pos hq2, if_neg (by rw [zI_0.mp c_39]; decide)])
      · refine st_aload_n (q := 43) dX7_number_42 rfl rfl rfl ?_
        refine st_iconst (q := 44) dX7_number_43 rfl ic_3 ?_
        refine sm_V1 (q := 47) (M' := mX7_fails) dX7_number_44 rfl ok_X7_fails mk_X7_fails ml_X7_84 ⟨Nat.le_of_ble_eq_true rfl, Nat.le_of_ble_eq_true rfl⟩ rfl (Nat.le_of_ble_eq_true rfl) (g_rv hM rfl) ⟨rfl, rfl⟩ (c_X7_fails hF hM h0) ?_
        intro _ n w h9 _
        obtain ⟨rfl, rfl, hM, hF⟩ := h9
        first
          | exact gd (zI_1.mp c_39)
          | exact sB _ w (3, q.2.1) hM hF ((FX.rf.up (by omega)).up (by omega)) ⟨rfl, h15, by simp, by simp⟩ (by rw [numX, if_pos hq2, if_neg (by rw [zI_0.mp c_39]; decide)]) (by rw [numV, if_pos hq2, if_neg (by rw [zI_0.mp c_39]; decide)])
    · refine st_aload_n (q := 1) dX7_number_0 rfl rfl rfl ?_
      refine m_get (q := 4) dX7_number_1 rfl fl_X7_54.g hM (by decide) rfl ?_
      refine st_if_ne (q := 7) (tgt := 20) dX7_number_4 rfl rfl (fun c_4 => False.elim (c_4 h0)) (fun c_4 => ?_)
      refine st_aload_n (q := 8) dX7_number_7 rfl rfl rfl ?_
      refine m_get (q := 11) dX7_number_8 rfl fl_X7_63.g hM (by decide) rfl ?_
      rw [h16]
      refine st_iconst (q := 12) dX7_number_11 rfl ic_2 ?_
      refine st_icmp_eq (q := 15) (tgt := 20) dX7_number_12 rfl rfl (fun c_12 => False.elim (hq2 (nI_ij (b := 2) (by omega) (by decide) c_12))) (fun c_12 => ?_)
      refine st_aload_n (q := 16) dX7_number_15 rfl rfl rfl ?_
      refine st_iconst (q := 17) dX7_number_16 rfl ic_2 ?_
      refine sm_V1 (q := 20) (M' := mX7_fails) dX7_number_17 rfl ok_X7_fails mk_X7_fails ml_X7_84 ⟨Nat.le_of_ble_eq_true rfl, Nat.le_of_ble_eq_true rfl⟩ rfl (Nat.le_of_ble_eq_true rfl) (g_rv hM rfl) ⟨rfl, rfl⟩ (c_X7_fails hF hM h0) ?_
      intro _ n w h9 _
      obtain ⟨rfl, rfl, hM, hF⟩ := h9
      refine st_aload_n (q := 21) dX7_number_20 rfl rfl rfl ?_
      refine m_get (q := 24) dX7_number_21 rfl fl_X7_54.g hM (by decide) rfl ?_
      refine st_if_ne (q := 27) (tgt := 47) dX7_number_24 rfl rfl (fun c_24 => ?_) (fun c_24 => False.elim (absurd (show (2 : Int32) = 0 from c_24) (by decide)))
      exact sB _ w (2, q.2.1) hM hF ((FX.rf.up (by omega)).up (by omega)) ⟨rfl, h15, by simp, by simp⟩ (by rw [numX, if_neg hq2]) (by rw [numV, if_neg hq2])
theorem numV_rg {lo hi : Int32} {t : TX} (h : inI lo lo hi = true) : inI (numV lo hi t) lo hi = true := by
  cases t with
  | inl e => exact h
  | inr q =>
    unfold numV
    dsimp only
    split
    · split
      · assumption
      · exact h
    · exact h
set_option maxRecDepth 100000 in
set_option maxHeartbeats 4000000 in
theorem c_X7_readThing {E : ev_E} {n : Nat} {w : ev_W} {S : gT} {f : Nat → Int32} {w0 : ev_W} (hF : Fr 70 82 w0 w) (hM : MR S f 70 n w) {b : Nat → Int32} {tl : Nat} (hK : KX S b tl) {x : TX} (hT : PT S tl x) {nt : Nat} (h5 : S 5 0 = nI nt) (hnt : nt < 8) {nm : Int32} : Ct E mX7_readThing [.ref 70, .int nm] n w (fun a u v => ∃ S', a = none ∧ u = n ∧ MR S' f 70 n v ∧ PT S' tl (numX b tl 0 9 (numX b tl 1 9 (numX b tl 0 3 x))) ∧ S' 3 = upd (upd (upd (upd (S 3) (20 + nt) nm) (28 + nt) (numV 0 3 x)) (36 + nt) (numV 1 9 (numX b tl 0 3 x))) (44 + nt) (numV 0 9 (numX b tl 1 9 (numX b tl 0 3 x))) ∧ S' 5 0 = nI (nt + 1) ∧ S' 8 0 = (if (numV 0 3 x) ≤ S 8 0 then S 8 0 else (numV 0 3 x)) ∧ (∀ g, g ≠ 3 → g ≠ 5 → g ≠ 8 → (g < 12 ∨ 17 < g) → S' g = S g) ∧ Fr 70 82 w0 v) := by
  refine Ct.of 1 (by decide) (Nat.le_of_ble_eq_true rfl) rfl ?_
  refine st_aload_n (q := 1) dX7_readThing_0 rfl rfl rfl ?_
  refine st_iconst (q := 2) dX7_readThing_1 rfl ic_0 ?_
  refine st_iconst (q := 3) dX7_readThing_2 rfl ic_3 ?_
  refine sm_V2 (q := 6) (M' := mX7_number) dX7_readThing_3 rfl ok_X7_number mk_X7_number ml_X7_91 ⟨Nat.le_of_ble_eq_true rfl, Nat.le_of_ble_eq_true rfl⟩ rfl (Nat.le_of_ble_eq_true rfl) (g_rv hM rfl) ⟨rfl, rfl⟩ (c_X7_number hF hM (hK) (hT) (lo := 0) (hi := 3)) ?_
  intro _ n w h9 _
  obtain ⟨S1, rfl, rfl, hM, hP1, hX1, hF⟩ := h9
  have h51 : S1 5 0 = nI nt := by rw [hX1 5 (by omega)]; exact h5
  have rest : ∀ (tv : Int32) (w1 : ev_W), MR (tup S1 8 0 tv) f 70 n w1 → Fr 70 82 w0 w1 → tv = (if (numV 0 3 x) ≤ S 8 0 then S 8 0 else (numV 0 3 x)) → Ev E mX7_readThing 27 [some (.ref 70), some (.int nm), some (.int (numV 0 3 x))] [] n w1 (0, 0) (fun a u v => ∃ S', a = none ∧ u = n ∧ MR S' f 70 n v ∧ PT S' tl (numX b tl 0 9 (numX b tl 1 9 (numX b tl 0 3 x))) ∧ S' 3 = upd (upd (upd (upd (S 3) (20 + nt) nm) (28 + nt) (numV 0 3 x)) (36 + nt) (numV 1 9 (numX b tl 0 3 x))) (44 + nt) (numV 0 9 (numX b tl 1 9 (numX b tl 0 3 x))) ∧ S' 5 0 = nI (nt + 1) ∧ S' 8 0 = (if (numV 0 3 x) ≤ S 8 0 then S 8 0 else (numV 0 3 x)) ∧ (∀ g, g ≠ 3 → g ≠ 5 → g ≠ 8 → (g < 12 ∨ 17 < g) → S' g = S g) ∧ Fr 70 82 w0 v) := by
    clear hM hF
    intro tv w hM hF htv
    refine st_aload_n (q := 28) dX7_readThing_27 rfl rfl rfl ?_
    refine g_getA (q := 31) dX7_readThing_28 rfl fl_X7_13.g hM rfl ?_
    refine st_bipush (q := 33) dX7_readThing_31 rfl bp_20 ?_
    refine st_aload_n (q := 34) dX7_readThing_33 rfl rfl rfl ?_
    refine m_get (q := 37) dX7_readThing_34 rfl fl_X7_98.g hM (by decide) rfl ?_
    change Ev _ _ _ _ (.int (S1 5 0) :: _) _ _ _ _
    rw [h51]
    refine st_iadd (q := 38) dX7_readThing_37 rfl ?_
    refine st_iload_n (q := 39) dX7_readThing_38 rfl rfl rfl ?_
    refine m_ast (q := 40) dX7_readThing_39 rfl hM (i := 3) (by decide) rfl (by exact ix2 (a := 20) (b := nt) (by omega) (by decide)) (fun w hM hF_ => ?_)
    replace hF := Fr.tr hF hF_
    refine st_aload_n (q := 41) dX7_readThing_40 rfl rfl rfl ?_
    refine g_getA (q := 44) dX7_readThing_41 rfl fl_X7_13.g hM rfl ?_
    refine st_bipush (q := 46) dX7_readThing_44 rfl bp_28 ?_
    refine st_aload_n (q := 47) dX7_readThing_46 rfl rfl rfl ?_
    refine m_get (q := 50) dX7_readThing_47 rfl fl_X7_98.g hM (by decide) rfl ?_
    change Ev _ _ _ _ (.int (S1 5 0) :: _) _ _ _ _
    rw [h51]
    refine st_iadd (q := 51) dX7_readThing_50 rfl ?_
    refine st_iload_n (q := 52) dX7_readThing_51 rfl rfl rfl ?_
    refine m_ast (q := 53) dX7_readThing_52 rfl hM (i := 3) (by decide) rfl (by exact ix2 (a := 28) (b := nt) (by omega) (by decide)) (fun w hM hF_ => ?_)
    replace hF := Fr.tr hF hF_
    refine st_aload_n (q := 54) dX7_readThing_53 rfl rfl rfl ?_
    refine g_getA (q := 57) dX7_readThing_54 rfl fl_X7_13.g hM rfl ?_
    refine st_bipush (q := 59) dX7_readThing_57 rfl bp_36 ?_
    refine st_aload_n (q := 60) dX7_readThing_59 rfl rfl rfl ?_
    refine m_get (q := 63) dX7_readThing_60 rfl fl_X7_98.g hM (by decide) rfl ?_
    change Ev _ _ _ _ (.int (S1 5 0) :: _) _ _ _ _
    rw [h51]
    refine st_iadd (q := 64) dX7_readThing_63 rfl ?_
    refine st_aload_n (q := 65) dX7_readThing_64 rfl rfl rfl ?_
    refine st_iconst (q := 66) dX7_readThing_65 rfl ic_1 ?_
    refine st_bipush (q := 68) dX7_readThing_66 rfl bp_9 ?_
    refine sm_V2 (q := 71) (M' := mX7_number) dX7_readThing_68 rfl ok_X7_number mk_X7_number ml_X7_91 ⟨Nat.le_of_ble_eq_true rfl, Nat.le_of_ble_eq_true rfl⟩ rfl (Nat.le_of_ble_eq_true rfl) (g_rv hM rfl) ⟨rfl, rfl⟩ (c_X7_number hF hM ((((hK.fx hX1).up (by omega)).up (by omega)).up (by omega)) (((hP1.up (by omega)).up (by omega)).up (by omega)) (lo := 1) (hi := 9)) ?_
    intro _ n w h9 _
    obtain ⟨S2, rfl, rfl, hM, hP2, hX2, hF⟩ := h9
    refine m_ast (q := 72) dX7_readThing_71 rfl hM (i := 3) (by decide) rfl (by exact ix2 (a := 36) (b := nt) (by omega) (by decide)) (fun w hM hF_ => ?_)
    replace hF := Fr.tr hF hF_
    have h52 : S2 5 0 = nI nt := by rw [hX2 5 (by omega)]; exact h51
    refine st_aload_n (q := 73) dX7_readThing_72 rfl rfl rfl ?_
    refine g_getA (q := 76) dX7_readThing_73 rfl fl_X7_13.g hM rfl ?_
    refine st_bipush (q := 78) dX7_readThing_76 rfl bp_44 ?_
    refine st_aload_n (q := 79) dX7_readThing_78 rfl rfl rfl ?_
    refine m_get (q := 82) dX7_readThing_79 rfl fl_X7_98.g hM (by decide) rfl ?_
    change Ev _ _ _ _ (.int (S2 5 0) :: _) _ _ _ _
    rw [h52]
    refine st_iadd (q := 83) dX7_readThing_82 rfl ?_
    refine st_aload_n (q := 84) dX7_readThing_83 rfl rfl rfl ?_
    refine st_iconst (q := 85) dX7_readThing_84 rfl ic_0 ?_
    refine st_bipush (q := 87) dX7_readThing_85 rfl bp_9 ?_
    refine sm_V2 (q := 90) (M' := mX7_number) dX7_readThing_87 rfl ok_X7_number mk_X7_number ml_X7_91 ⟨Nat.le_of_ble_eq_true rfl, Nat.le_of_ble_eq_true rfl⟩ rfl (Nat.le_of_ble_eq_true rfl) (g_rv hM rfl) ⟨rfl, rfl⟩ (c_X7_number hF hM (((((hK.fx hX1).up (by omega)).up (by omega)).up (by omega)).fx hX2 |>.up (by omega)) (hP2.up (by omega)) (lo := 0) (hi := 9)) ?_
    intro _ n w h9 _
    obtain ⟨S3, rfl, rfl, hM, hP3, hX3, hF⟩ := h9
    refine m_ast (q := 91) dX7_readThing_90 rfl hM (i := 3) (by decide) rfl (by exact ix2 (a := 44) (b := nt) (by omega) (by decide)) (fun w hM hF_ => ?_)
    replace hF := Fr.tr hF hF_
    have h53 : S3 5 0 = nI nt := by rw [hX3 5 (by omega)]; exact h52
    refine st_aload_n (q := 92) dX7_readThing_91 rfl rfl rfl ?_
    refine st_dup (q := 93) dX7_readThing_92 rfl rfl ?_
    refine m_get (q := 96) dX7_readThing_93 rfl fl_X7_98.g hM (by decide) rfl ?_
    change Ev _ _ _ _ (.int (S3 5 0) :: _) _ _ _ _
    rw [h53]
    refine st_iconst (q := 97) dX7_readThing_96 rfl ic_1 ?_
    refine st_iadd (q := 98) dX7_readThing_97 rfl ?_
    rw [← nI_succ]
    refine m_put (q := 101) dX7_readThing_98 rfl fl_X7_98 hM (by decide) rfl rfl rfl (fun w hM hF_ => ?_)
    replace hF := Fr.tr hF hF_
    refine st_return dX7_readThing_101 rfl ?_
    refine ⟨_, rfl, rfl, hM, (hP3.up (by omega)).up (by omega), ?_, ?_, ?_, fun g h3 h5 h8 h12 => ?_, hF⟩
    · rw [tup_n (by decide), tup_s, hX3 3 (by omega), tup_s, hX2 3 (by omega), tup_s, tup_s, tup_n (by decide), hX1 3 (by omega)]
    · rw [tup_s, pk_us]
    · rw [tup_n (by decide), tup_n (by decide), hX3 8 (by omega), tup_n (by decide), hX2 8 (by omega), tup_n (by decide), tup_n (by decide), tup_s, pk_us]; exact htv
    · rw [tup_n h5, tup_n h3, hX3 g h12, tup_n h3, hX2 g h12, tup_n h3, tup_n h3, tup_n h8, hX1 g h12]
  refine st_istore_n (q := 7) (L' := [_, _, _]) dX7_readThing_6 rfl rfl (Nat.le_of_ble_eq_true rfl) rfl ?_
  refine st_aload_n (q := 8) dX7_readThing_7 rfl rfl rfl ?_
  refine st_iload_n (q := 9) dX7_readThing_8 rfl rfl rfl ?_
  refine st_aload_n (q := 10) dX7_readThing_9 rfl rfl rfl ?_
  refine m_get (q := 13) dX7_readThing_10 rfl fl_X7_95.g hM (by decide) rfl ?_
  rw [show S1 8 0 = S 8 0 from by rw [hX1 8 (by omega)]]
  refine st_icmp_le (q := 16) (tgt := 20) dX7_readThing_13 rfl rfl (fun c_13 => ?_) (fun c_13 => ?_)
  · refine st_aload_n (q := 21) dX7_readThing_20 rfl rfl rfl ?_
    refine m_get (q := 24) dX7_readThing_21 rfl fl_X7_95.g hM (by decide) rfl ?_
    skip
    refine m_put (q := 27) dX7_readThing_24 rfl fl_X7_95 hM (by decide) rfl rfl rfl (fun w hM hF_ => ?_)
    replace hF := Fr.tr hF hF_
    first
      | exact rest _ w hM hF (by rw [if_neg c_13])
      | exact rest _ w hM hF (by rw [if_pos c_13, hX1 8 (by omega)])
  · refine st_iload_n (q := 17) dX7_readThing_16 rfl rfl rfl ?_
    refine st_goto (q := 24) dX7_readThing_17 rfl ?_
    skip
    refine m_put (q := 27) dX7_readThing_24 rfl fl_X7_95 hM (by decide) rfl rfl rfl (fun w hM hF_ => ?_)
    replace hF := Fr.tr hF hF_
    first
      | exact rest _ w hM hF (by rw [if_neg c_13])
      | exact rest _ w hM hF (by rw [if_pos c_13, hX1 8 (by omega)])
set_option maxRecDepth 100000 in
set_option maxHeartbeats 4000000 in
theorem c_X7_readHouse {E : ev_E} {n : Nat} {w : ev_W} {S : gT} {f : Nat → Int32} {w0 : ev_W} (hF : Fr 70 82 w0 w) (hM : MR S f 70 n w) {b : Nat → Int32} {tl : Nat} (hK : KX S b tl) {x : TX} (hT : PT S tl x) {nh : Nat} (h4 : S 4 0 = nI nh) (hnh : nh < 4) : Ct E mX7_readHouse [.ref 70] n w (fun a u v => ∃ S', a = none ∧ u = n ∧ MR S' f 70 n v ∧ PT S' tl (numX b tl 0 3 (numX b tl 0 40 (numX b tl 0 20 x))) ∧ S' 3 = upd (upd (upd (upd (S 3) nh (numV 0 20 x)) (4 + nh) (numV 0 40 (numX b tl 0 20 x))) (8 + nh) (numV 0 3 (numX b tl 0 40 (numX b tl 0 20 x)))) (12 + nh) 50 ∧ S' 4 0 = nI (nh + 1) ∧ (∀ g, g ≠ 3 → g ≠ 4 → (g < 12 ∨ 17 < g) → S' g = S g) ∧ Fr 70 82 w0 v) := by
  refine Ct.of 0 (by decide) (Nat.le_of_ble_eq_true rfl) rfl ?_
  refine st_aload_n (q := 1) dX7_readHouse_0 rfl rfl rfl ?_
  refine g_getA (q := 4) dX7_readHouse_1 rfl fl_X7_13.g hM rfl ?_
  refine st_aload_n (q := 5) dX7_readHouse_4 rfl rfl rfl ?_
  refine m_get (q := 8) dX7_readHouse_5 rfl fl_X7_101.g hM (by decide) rfl ?_
  change Ev _ _ _ _ (.int (S 4 0) :: _) _ _ _ _
  rw [h4]
  refine st_aload_n (q := 9) dX7_readHouse_8 rfl rfl rfl ?_
  refine st_iconst (q := 10) dX7_readHouse_9 rfl ic_0 ?_
  refine st_bipush (q := 12) dX7_readHouse_10 rfl bp_20 ?_
  refine sm_V2 (q := 15) (M' := mX7_number) dX7_readHouse_12 rfl ok_X7_number mk_X7_number ml_X7_91 ⟨Nat.le_of_ble_eq_true rfl, Nat.le_of_ble_eq_true rfl⟩ rfl (Nat.le_of_ble_eq_true rfl) (g_rv hM rfl) ⟨rfl, rfl⟩ (c_X7_number hF hM (hK) (hT) (lo := 0) (hi := 20)) ?_
  intro _ n w h9 _
  obtain ⟨S1, rfl, rfl, hM, hP1, hX1, hF⟩ := h9
  refine m_ast (q := 16) dX7_readHouse_15 rfl hM (i := 3) (by decide) rfl (by exact ev_ix_nI (j := nh) (by omega) (by decide)) (fun w hM hF_ => ?_)
  replace hF := Fr.tr hF hF_
  have h41 : S1 4 0 = nI nh := by rw [hX1 4 (by omega)]; exact h4
  refine st_aload_n (q := 17) dX7_readHouse_16 rfl rfl rfl ?_
  refine g_getA (q := 20) dX7_readHouse_17 rfl fl_X7_13.g hM rfl ?_
  refine st_iconst (q := 21) dX7_readHouse_20 rfl ic_4 ?_
  refine st_aload_n (q := 22) dX7_readHouse_21 rfl rfl rfl ?_
  refine m_get (q := 25) dX7_readHouse_22 rfl fl_X7_101.g hM (by decide) rfl ?_
  change Ev _ _ _ _ (.int (S1 4 0) :: _) _ _ _ _
  rw [h41]
  refine st_iadd (q := 26) dX7_readHouse_25 rfl ?_
  refine st_aload_n (q := 27) dX7_readHouse_26 rfl rfl rfl ?_
  refine st_iconst (q := 28) dX7_readHouse_27 rfl ic_0 ?_
  refine st_bipush (q := 30) dX7_readHouse_28 rfl bp_40 ?_
  refine sm_V2 (q := 33) (M' := mX7_number) dX7_readHouse_30 rfl ok_X7_number mk_X7_number ml_X7_91 ⟨Nat.le_of_ble_eq_true rfl, Nat.le_of_ble_eq_true rfl⟩ rfl (Nat.le_of_ble_eq_true rfl) (g_rv hM rfl) ⟨rfl, rfl⟩ (c_X7_number hF hM ((hK.fx hX1).up (by omega)) (hP1.up (by omega)) (lo := 0) (hi := 40)) ?_
  intro _ n w h9 _
  obtain ⟨S2, rfl, rfl, hM, hP2, hX2, hF⟩ := h9
  refine m_ast (q := 34) dX7_readHouse_33 rfl hM (i := 3) (by decide) rfl (by exact ix2 (a := 4) (b := nh) (by omega) (by decide)) (fun w hM hF_ => ?_)
  replace hF := Fr.tr hF hF_
  have h42 : S2 4 0 = nI nh := by rw [hX2 4 (by omega)]; exact h41
  refine st_aload_n (q := 35) dX7_readHouse_34 rfl rfl rfl ?_
  refine g_getA (q := 38) dX7_readHouse_35 rfl fl_X7_13.g hM rfl ?_
  refine st_bipush (q := 40) dX7_readHouse_38 rfl bp_8 ?_
  refine st_aload_n (q := 41) dX7_readHouse_40 rfl rfl rfl ?_
  refine m_get (q := 44) dX7_readHouse_41 rfl fl_X7_101.g hM (by decide) rfl ?_
  change Ev _ _ _ _ (.int (S2 4 0) :: _) _ _ _ _
  rw [h42]
  refine st_iadd (q := 45) dX7_readHouse_44 rfl ?_
  refine st_aload_n (q := 46) dX7_readHouse_45 rfl rfl rfl ?_
  refine st_iconst (q := 47) dX7_readHouse_46 rfl ic_0 ?_
  refine st_iconst (q := 48) dX7_readHouse_47 rfl ic_3 ?_
  refine sm_V2 (q := 51) (M' := mX7_number) dX7_readHouse_48 rfl ok_X7_number mk_X7_number ml_X7_91 ⟨Nat.le_of_ble_eq_true rfl, Nat.le_of_ble_eq_true rfl⟩ rfl (Nat.le_of_ble_eq_true rfl) (g_rv hM rfl) ⟨rfl, rfl⟩ (c_X7_number hF hM (((hK.fx hX1).up (by omega)).fx hX2 |>.up (by omega)) (hP2.up (by omega)) (lo := 0) (hi := 3)) ?_
  intro _ n w h9 _
  obtain ⟨S3, rfl, rfl, hM, hP3, hX3, hF⟩ := h9
  refine m_ast (q := 52) dX7_readHouse_51 rfl hM (i := 3) (by decide) rfl (by exact ix2 (a := 8) (b := nh) (by omega) (by decide)) (fun w hM hF_ => ?_)
  replace hF := Fr.tr hF hF_
  have h43 : S3 4 0 = nI nh := by rw [hX3 4 (by omega)]; exact h42
  refine st_aload_n (q := 53) dX7_readHouse_52 rfl rfl rfl ?_
  refine g_getA (q := 56) dX7_readHouse_53 rfl fl_X7_13.g hM rfl ?_
  refine st_bipush (q := 58) dX7_readHouse_56 rfl bp_12 ?_
  refine st_aload_n (q := 59) dX7_readHouse_58 rfl rfl rfl ?_
  refine m_get (q := 62) dX7_readHouse_59 rfl fl_X7_101.g hM (by decide) rfl ?_
  change Ev _ _ _ _ (.int (S3 4 0) :: _) _ _ _ _
  rw [h43]
  refine st_iadd (q := 63) dX7_readHouse_62 rfl ?_
  refine st_bipush (q := 65) dX7_readHouse_63 rfl bp_50 ?_
  refine m_ast (q := 66) dX7_readHouse_65 rfl hM (i := 3) (by decide) rfl (by exact ix2 (a := 12) (b := nh) (by omega) (by decide)) (fun w hM hF_ => ?_)
  replace hF := Fr.tr hF hF_
  refine st_aload_n (q := 67) dX7_readHouse_66 rfl rfl rfl ?_
  refine st_dup (q := 68) dX7_readHouse_67 rfl rfl ?_
  refine m_get (q := 71) dX7_readHouse_68 rfl fl_X7_101.g hM (by decide) rfl ?_
  change Ev _ _ _ _ (.int (S3 4 0) :: _) _ _ _ _
  rw [h43]
  refine st_iconst (q := 72) dX7_readHouse_71 rfl ic_1 ?_
  refine st_iadd (q := 73) dX7_readHouse_72 rfl ?_
  rw [← nI_succ]
  refine m_put (q := 76) dX7_readHouse_73 rfl fl_X7_101 hM (by decide) rfl rfl rfl (fun w hM hF_ => ?_)
  replace hF := Fr.tr hF hF_
  refine st_return dX7_readHouse_76 rfl ?_
  refine ⟨_, rfl, rfl, hM, ((hP3.up (by omega)).up (by omega)).up (by omega), ?_, ?_, fun g h3 h4 h12 => ?_, hF⟩
  · rw [tup_n (by decide), tup_s, tup_s, hX3 3 (by omega), tup_s, hX2 3 (by omega), tup_s, hX1 3 (by omega)]
  · rw [tup_s, pk_us]
  · rw [tup_n h4, tup_n h3, tup_n h3, hX3 g h12, tup_n h3, hX2 g h12, tup_n h3, hX1 g h12]
def rsX (dy : Int32) : TX → TX
  | .inl e => .inl e
  | .inr q => if q.1 = 2 then (if inI q.2.2.2 0 6 = true then (if (dy >>> (q.2.2.2 &&& 31)) &&& 1 = 1 then .inl (4, q.2.1) else .inr q) else .inr q) else .inr q
set_option maxRecDepth 100000 in
set_option maxHeartbeats 4000000 in
theorem c_X7_readRise {E : ev_E} {n : Nat} {w : ev_W} {S : gT} {f : Nat → Int32} {w0 : ev_W} (hF : Fr 70 82 w0 w) (hM : MR S f 70 n w) {b : Nat → Int32} {tl : Nat} (hK : KX S b tl) {x : TX} (hT : PT S tl x) : Ct E mX7_readRise [.ref 70] n w (fun a u v => ∃ S', a = none ∧ u = n ∧ MR S' f 70 n v ∧ PT S' tl (numX b tl 0 8 (numX b tl 0 6 (rsX (S 7 0) x))) ∧ S' 3 = upd (S 3) (60 + (numV 0 6 (rsX (S 7 0) x)).toNatClampNeg) ((numV 0 8 (numX b tl 0 6 (rsX (S 7 0) x))) - 4) ∧ S' 7 0 = S 7 0 ||| 1 <<< ((numV 0 6 (rsX (S 7 0) x)) &&& 31) ∧ (∀ g, g ≠ 3 → g ≠ 7 → (g < 12 ∨ 17 < g) → S' g = S g) ∧ Fr 70 82 w0 v) := by
  refine Ct.of 1 (by decide) (Nat.le_of_ble_eq_true rfl) rfl ?_
  have go : ∀ (S0 : gT) (w1 : ev_W), MR S0 f 70 n w1 → Fr 70 82 w0 w1 → FX S S0 → PT S0 tl (rsX (S 7 0) x) → Ev E mX7_readRise 50 [some (.ref 70), none] [] n w1 (0, 0) (fun a u v => ∃ S', a = none ∧ u = n ∧ MR S' f 70 n v ∧ PT S' tl (numX b tl 0 8 (numX b tl 0 6 (rsX (S 7 0) x))) ∧ S' 3 = upd (S 3) (60 + (numV 0 6 (rsX (S 7 0) x)).toNatClampNeg) ((numV 0 8 (numX b tl 0 6 (rsX (S 7 0) x))) - 4) ∧ S' 7 0 = S 7 0 ||| 1 <<< ((numV 0 6 (rsX (S 7 0) x)) &&& 31) ∧ (∀ g, g ≠ 3 → g ≠ 7 → (g < 12 ∨ 17 < g) → S' g = S g) ∧ Fr 70 82 w0 v) := by
    clear hM hF
    intro S0 w hM hF hX0 hP0
    refine st_aload_n (q := 51) dX7_readRise_50 rfl rfl rfl ?_
    refine st_iconst (q := 52) dX7_readRise_51 rfl ic_0 ?_
    refine st_bipush (q := 54) dX7_readRise_52 rfl bp_6 ?_
    refine sm_V2 (q := 57) (M' := mX7_number) dX7_readRise_54 rfl ok_X7_number mk_X7_number ml_X7_91 ⟨Nat.le_of_ble_eq_true rfl, Nat.le_of_ble_eq_true rfl⟩ rfl (Nat.le_of_ble_eq_true rfl) (g_rv hM rfl) ⟨rfl, rfl⟩ (c_X7_number hF hM (hK.fx hX0) (hP0) (lo := 0) (hi := 6)) ?_
    intro _ n w h9 _
    obtain ⟨S1, rfl, rfl, hM, hP1, hX1, hF⟩ := h9
    obtain ⟨d, hd, ed⟩ := inI_k (k := 6) (numV_rg (lo := 0) (hi := 6) (t := rsX (S 7 0) x) (by decide)) (by decide)
    have hdc : (numV 0 6 (rsX (S 7 0) x)).toNatClampNeg = d := by rw [ed, nI_clamp (by omega)]
    refine st_istore_n (q := 58) (L' := [_, _]) dX7_readRise_57 rfl rfl (Nat.le_of_ble_eq_true rfl) rfl ?_
    refine st_aload_n (q := 59) dX7_readRise_58 rfl rfl rfl ?_
    refine st_dup (q := 60) dX7_readRise_59 rfl rfl ?_
    refine m_get (q := 63) dX7_readRise_60 rfl fl_X7_106.g hM (by decide) rfl ?_
    rw [show S1 7 0 = S 7 0 from by rw [hX1 7 (by omega), hX0 7 (by omega)]]
    refine st_iconst (q := 64) dX7_readRise_63 rfl ic_1 ?_
    refine st_iload_n (q := 65) dX7_readRise_64 rfl rfl rfl ?_
    refine st_ishl (q := 66) dX7_readRise_65 rfl ?_
    refine st_ior (q := 67) dX7_readRise_66 rfl ?_
    refine m_put (q := 70) dX7_readRise_67 rfl fl_X7_106 hM (by decide) rfl rfl rfl (fun w hM hF_ => ?_)
    replace hF := Fr.tr hF hF_
    refine st_aload_n (q := 71) dX7_readRise_70 rfl rfl rfl ?_
    refine g_getA (q := 74) dX7_readRise_71 rfl fl_X7_13.g hM rfl ?_
    refine st_bipush (q := 76) dX7_readRise_74 rfl bp_60 ?_
    refine st_iload_n (q := 77) dX7_readRise_76 rfl rfl rfl ?_
    refine st_iadd (q := 78) dX7_readRise_77 rfl ?_
    refine st_aload_n (q := 79) dX7_readRise_78 rfl rfl rfl ?_
    refine st_iconst (q := 80) dX7_readRise_79 rfl ic_0 ?_
    refine st_bipush (q := 82) dX7_readRise_80 rfl bp_8 ?_
    refine sm_V2 (q := 85) (M' := mX7_number) dX7_readRise_82 rfl ok_X7_number mk_X7_number ml_X7_91 ⟨Nat.le_of_ble_eq_true rfl, Nat.le_of_ble_eq_true rfl⟩ rfl (Nat.le_of_ble_eq_true rfl) (g_rv hM rfl) ⟨rfl, rfl⟩ (c_X7_number hF hM (((hK.fx hX0).fx hX1).up (by omega)) (hP1.up (by omega)) (lo := 0) (hi := 8)) ?_
    intro _ n w h9 _
    obtain ⟨S2, rfl, rfl, hM, hP2, hX2, hF⟩ := h9
    refine st_iconst (q := 86) dX7_readRise_85 rfl ic_4 ?_
    refine st_isub (q := 87) dX7_readRise_86 rfl ?_
    refine m_ast (q := 88) dX7_readRise_87 rfl hM (i := 3) (by decide) rfl (by rw [ed]; exact ix2 (a := 60) (b := d) (by omega) (by decide)) (fun w hM hF_ => ?_)
    replace hF := Fr.tr hF hF_
    refine st_return dX7_readRise_88 rfl ?_
    refine ⟨_, rfl, rfl, hM, hP2.up (by omega), ?_, ?_, fun g h3 h7 h12 => ?_, hF⟩
    · rw [tup_s, hX2 3 (by omega), tup_n (by decide), hX1 3 (by omega), hX0 3 (by omega), hdc]
    · rw [tup_n (by decide), hX2 7 (by omega), tup_s, pk_us]
    · rw [tup_n h3, hX2 g h12, tup_n h7, hX1 g h12, hX0 g h12]
  cases x with
  | inl e =>
    refine st_aload_n (q := 1) dX7_readRise_0 rfl rfl rfl ?_
    refine m_get (q := 4) dX7_readRise_1 rfl fl_X7_54.g hM (by decide) rfl ?_
    refine st_if_ne (q := 7) (tgt := 50) dX7_readRise_4 rfl rfl (fun c_4 => ?_) (fun c_4 => False.elim (e_ne hT c_4))
    exact go S w hM hF FX.rf hT
  | inr q =>
    have h0 : S 12 0 = 0 := hT.1
    have h15 : S 15 0 = nI q.2.1 := hT.2.2.1
    have h16 : S 16 0 = nI q.1 := hT.2.2.2.1
    have hq3 : q.1 ≤ 3 := hT.2.2.2.2.2.2.2
    have h17 : q.1 = 2 → S 17 0 = q.2.2.2 := hT.2.2.2.2.1
    refine st_aload_n (q := 1) dX7_readRise_0 rfl rfl rfl ?_
    refine m_get (q := 4) dX7_readRise_1 rfl fl_X7_54.g hM (by decide) rfl ?_
    refine st_if_ne (q := 7) (tgt := 50) dX7_readRise_4 rfl rfl (fun c_4 => False.elim (c_4 h0)) (fun c_4 => ?_)
    refine st_aload_n (q := 8) dX7_readRise_7 rfl rfl rfl ?_
    refine m_get (q := 11) dX7_readRise_8 rfl fl_X7_63.g hM (by decide) rfl ?_
    rw [h16]
    refine st_iconst (q := 12) dX7_readRise_11 rfl ic_2 ?_
    refine st_icmp_ne (q := 15) (tgt := 50) dX7_readRise_12 rfl rfl (fun c_12 => ?_) (fun c_12 => ?_)
    · first
        | exact go _ w hM hF ((FX.rf.up (by omega)).up (by omega)) (by rw [rsX, if_pos hq2, if_pos (zI_1.mp c_27), if_pos c_42]; exact ⟨rfl, h15, by simp, by simp⟩)
        | exact go S w hM hF FX.rf (by rw [rsX, if_pos hq2, if_pos (zI_1.mp c_27), if_neg c_42]; exact hT)
        | exact go S w hM hF FX.rf (by rw [rsX, if_pos hq2, if_neg (by rw [zI_0.mp c_27]; decide)]; exact hT)
        | exact go S w hM hF FX.rf (by rw [rsX, if_neg (fun z => c_12 (by rw [z]; rfl))]; exact hT)
    · refine st_aload_n (q := 16) dX7_readRise_15 rfl rfl rfl ?_
      refine m_get (q := 19) dX7_readRise_16 rfl fl_X7_73.g hM (by decide) rfl ?_
      have hq2 : q.1 = 2 := nI_ij (b := 2) (by omega) (by decide) c_12
      rw [h17 hq2]
      refine st_i2l (q := 20) dX7_readRise_19 rfl ?_
      refine st_lconst (q := 21) dX7_readRise_20 rfl lc_0 ?_
      refine st_ldc2 (q := 24) dX7_readRise_21 rfl cn_X7_104 ?_
      refine sp_S3 (q := 27) (M' := mX7_in) dX7_readRise_24 rfl ok_X7_in mk_X7_in ml_X7_46 ⟨Nat.le_of_ble_eq_true rfl, Nat.le_of_ble_eq_true rfl⟩ rfl (Nat.le_of_ble_eq_true rfl) ⟨rfl, rfl⟩ (c_X7_inI (a := 0) (c := 6) (by decide) (by decide)) ?_
      refine st_if_eq (q := 30) (tgt := 50) dX7_readRise_27 rfl rfl (fun c_27 => ?_) (fun c_27 => ?_)
      · first
          | exact go _ w hM hF ((FX.rf.up (by omega)).up (by omega)) (by rw [rsX, if_pos hq2, if_pos (zI_1.mp c_27), if_pos c_42]; exact ⟨rfl, h15, by simp, by simp⟩)
          | exact go S w hM hF FX.rf (by rw [rsX, if_pos hq2, if_pos (zI_1.mp c_27), if_neg c_42]; exact hT)
          | exact go S w hM hF FX.rf (by rw [rsX, if_pos hq2, if_neg (by rw [zI_0.mp c_27]; decide)]; exact hT)
          | exact go S w hM hF FX.rf (by rw [rsX, if_neg (fun z => c_12 (by rw [z]; rfl))]; exact hT)
      · refine st_aload_n (q := 31) dX7_readRise_30 rfl rfl rfl ?_
        refine m_get (q := 34) dX7_readRise_31 rfl fl_X7_106.g hM (by decide) rfl ?_
        refine st_aload_n (q := 35) dX7_readRise_34 rfl rfl rfl ?_
        refine m_get (q := 38) dX7_readRise_35 rfl fl_X7_73.g hM (by decide) rfl ?_
        rw [h17 hq2]
        refine st_ishr (q := 39) dX7_readRise_38 rfl ?_
        refine st_iconst (q := 40) dX7_readRise_39 rfl ic_1 ?_
        refine st_iand (q := 41) dX7_readRise_40 rfl ?_
        refine st_iconst (q := 42) dX7_readRise_41 rfl ic_1 ?_
        refine st_icmp_ne (q := 45) (tgt := 50) dX7_readRise_42 rfl rfl (fun c_42 => ?_) (fun c_42 => ?_)
        · first
            | exact go _ w hM hF ((FX.rf.up (by omega)).up (by omega)) (by rw [rsX, if_pos hq2, if_pos (zI_1.mp c_27), if_pos c_42]; exact ⟨rfl, h15, by simp, by simp⟩)
            | exact go S w hM hF FX.rf (by rw [rsX, if_pos hq2, if_pos (zI_1.mp c_27), if_neg c_42]; exact hT)
            | exact go S w hM hF FX.rf (by rw [rsX, if_pos hq2, if_neg (by rw [zI_0.mp c_27]; decide)]; exact hT)
            | exact go S w hM hF FX.rf (by rw [rsX, if_neg (fun z => c_12 (by rw [z]; rfl))]; exact hT)
        · refine st_aload_n (q := 46) dX7_readRise_45 rfl rfl rfl ?_
          refine st_iconst (q := 47) dX7_readRise_46 rfl ic_4 ?_
          refine sm_V1 (q := 50) (M' := mX7_fails) dX7_readRise_47 rfl ok_X7_fails mk_X7_fails ml_X7_84 ⟨Nat.le_of_ble_eq_true rfl, Nat.le_of_ble_eq_true rfl⟩ rfl (Nat.le_of_ble_eq_true rfl) (g_rv hM rfl) ⟨rfl, rfl⟩ (c_X7_fails hF hM h0) ?_
          intro _ n w h9 _
          obtain ⟨rfl, rfl, hM, hF⟩ := h9
          first
            | exact go _ w hM hF ((FX.rf.up (by omega)).up (by omega)) (by rw [rsX, if_pos hq2, if_pos (zI_1.mp c_27), if_pos c_42]; exact ⟨rfl, h15, by simp, by simp⟩)
            | exact go S w hM hF FX.rf (by rw [rsX, if_pos hq2, if_pos (zI_1.mp c_27), if_neg c_42]; exact hT)
            | exact go S w hM hF FX.rf (by rw [rsX, if_pos hq2, if_neg (by rw [zI_0.mp c_27]; decide)]; exact hT)
            | exact go S w hM hF FX.rf (by rw [rsX, if_neg (fun z => c_12 (by rw [z]; rfl))]; exact hT)
def chX (b : Nat → Int32) (tl wd : Nat) : Nat → Nat → TX → TX
  | 0, _, x => x
  | r + 1, k, x => chX b tl wd r (k + 1) (numX b tl ((leL wd).getD k 0) ((moL wd).getD k 0) x)
def chV (b : Nat → Int32) (tl wd : Nat) : Nat → Nat → TX → List Int32
  | 0, _, _ => []
  | r + 1, k, x => numV ((leL wd).getD k 0) ((moL wd).getD k 0) x :: chV b tl wd r (k + 1) (numX b tl ((leL wd).getD k 0) ((moL wd).getD k 0) x)
def pgU (g : Nat → Int32) (nh nt wd : Nat) (v : List Int32) : Nat → Int32 :=
  if wd < 4 then upd (upd (upd (upd g (20 + nt) (nI wd)) (28 + nt) (v.getD 0 0)) (36 + nt) (v.getD 1 0)) (44 + nt) (v.getD 2 0)
  else if wd = 4 then upd (upd (upd (upd g nh (v.getD 0 0)) (4 + nh) (v.getD 1 0)) (8 + nh) (v.getD 2 0)) (12 + nh) 50
  else if wd = 5 then upd g (60 + (v.getD 0 0).toNatClampNeg) (v.getD 1 0 - 4) else if wd = 6 then upd g 67 (v.getD 0 0 - 4) else upd g 68 (v.getD 0 0)
def RM (S S' : gT) (nh nt wd : Nat) (v : List Int32) : Prop := S' 3 = pgU (S 3) nh nt wd v ∧ S' 4 0 = nI (if wd = 4 then nh + 1 else nh) ∧ S' 5 0 = nI (if wd < 4 then nt + 1 else nt) ∧ S' 6 = S 6 ∧ S' 7 0 = (if wd = 5 then S 7 0 ||| 1 <<< (v.getD 0 0 &&& 31) else S 7 0) ∧ S' 8 0 = (if wd < 4 then (if v.getD 0 0 ≤ S 8 0 then S 8 0 else v.getD 0 0) else S 8 0) ∧ ∀ g, g < 3 ∨ (8 < g ∧ g < 12) ∨ 17 < g → S' g = S g
def xw (wd : Nat) (dy : Int32) (x : TX) : TX := if wd = 5 then rsX dy x else x
set_option maxRecDepth 100000 in
set_option maxHeartbeats 4000000 in
theorem c_X7_readMore {E : ev_E} {n : Nat} {w : ev_W} {S : gT} {f : Nat → Int32} {w0 : ev_W} (hF : Fr 70 82 w0 w) (hM : MR S f 70 n w) {b : Nat → Int32} {tl : Nat} (hK : KX S b tl) {x : TX} (hT : PT S tl x) {nh nt wd : Nat} (hwd : wd < 8) (h4 : S 4 0 = nI nh) (h5 : S 5 0 = nI nt) (hnh : wd = 4 → nh < 4) (hnt : wd < 4 → nt < 8) : Ct E mX7_readMore [.ref 70, .int (nI wd)] n w (fun a u v => ∃ S', a = none ∧ u = n ∧ MR S' f 70 n v ∧ PT S' tl (chX b tl wd (moL wd).length 0 (xw wd (S 7 0) x)) ∧ RM S S' nh nt wd (chV b tl wd (moL wd).length 0 (xw wd (S 7 0) x)) ∧ Fr 70 82 w0 v) := by
  refine Ct.of 0 (by decide) (Nat.le_of_ble_eq_true rfl) rfl ?_
  refine st_iload_n (q := 1) dX7_readMore_0 rfl rfl rfl ?_
  refine st_iconst (q := 2) dX7_readMore_1 rfl ic_3 ?_
  refine st_icmp_gt (q := 5) (tgt := 13) dX7_readMore_2 rfl rfl (fun c_2 => ?_) (fun c_2 => ?_)
  · have hw3 : ¬ wd < 4 := fun z => absurd ((nI_ltiff (a := 3) (b := wd) (by decide) (by omega)).mp c_2) (by omega)
    refine st_iload_n (q := 14) dX7_readMore_13 rfl rfl rfl ?_
    refine st_iconst (q := 15) dX7_readMore_14 rfl ic_4 ?_
    refine st_icmp_ne (q := 18) (tgt := 25) dX7_readMore_15 rfl rfl (fun c_15 => ?_) (fun c_15 => ?_)
    · have hw4 : ¬ wd = 4 := fun z => c_15 (by rw [z]; rfl)
      refine st_iload_n (q := 26) dX7_readMore_25 rfl rfl rfl ?_
      refine st_iconst (q := 27) dX7_readMore_26 rfl ic_5 ?_
      refine st_icmp_ne (q := 30) (tgt := 37) dX7_readMore_27 rfl rfl (fun c_27 => ?_) (fun c_27 => ?_)
      · have hw5 : ¬ wd = 5 := fun z => c_27 (by rw [z]; rfl)
        refine st_iload_n (q := 38) dX7_readMore_37 rfl rfl rfl ?_
        refine st_bipush (q := 40) dX7_readMore_38 rfl bp_6 ?_
        refine st_icmp_ne (q := 43) (tgt := 62) dX7_readMore_40 rfl rfl (fun c_40 => ?_) (fun c_40 => ?_)
        · have hw7 : wd = 7 := by
            have : ¬ wd = 6 := fun z => c_40 (by rw [z]; rfl)
            omega
          refine st_aload_n (q := 63) dX7_readMore_62 rfl rfl rfl ?_
          refine g_getA (q := 66) dX7_readMore_63 rfl fl_X7_13.g hM rfl ?_
          refine st_bipush (q := 68) dX7_readMore_66 rfl bp_68 ?_
          refine st_aload_n (q := 69) dX7_readMore_68 rfl rfl rfl ?_
          refine st_iconst (q := 70) dX7_readMore_69 rfl ic_0 ?_
          refine st_bipush (q := 72) dX7_readMore_70 rfl bp_20 ?_
          refine sm_V2 (q := 75) (M' := mX7_number) dX7_readMore_72 rfl ok_X7_number mk_X7_number ml_X7_91 ⟨Nat.le_of_ble_eq_true rfl, Nat.le_of_ble_eq_true rfl⟩ rfl (Nat.le_of_ble_eq_true rfl) (g_rv hM rfl) ⟨rfl, rfl⟩ (c_X7_number hF hM (hK) (hT) (lo := 0) (hi := 20)) ?_
          intro _ n w h9 _
          obtain ⟨S1, rfl, rfl, hM, hP1, hX1, hF⟩ := h9
          refine m_ast (q := 76) dX7_readMore_75 rfl hM (i := 3) (by decide) rfl (by exact ev_ix_nI (j := 68) (by decide) (by decide)) (fun w hM hF_ => ?_)
          replace hF := Fr.tr hF hF_
          refine st_return dX7_readMore_76 rfl ?_
          first
            | (refine ⟨S1, rfl, rfl, hM, ?_, ?_, hF⟩
               · match wd, hw3 with
                 | 0, _ => exact hP
                 | 1, _ => exact hP
                 | 2, _ => exact hP
                 | 3, _ => exact hP
               · have hv : ∀ wd, wd < 4 → chV b tl wd (moL wd).length 0 (xw wd (S 7 0) x) = [numV 0 3 x, numV 1 9 (numX b tl 0 3 x), numV 0 9 (numX b tl 1 9 (numX b tl 0 3 x))] := fun wd hw => by
                   match wd, hw with
                   | 0, _ => rfl
                   | 1, _ => rfl
                   | 2, _ => rfl
                   | 3, _ => rfl
                 rw [hv wd hw3]
                 refine ⟨by rw [h3, pgU, if_pos hw3]; rfl, by rw [hg 4 (by omega) (by omega) (by omega) (by omega), if_neg (by omega)]; exact h4, by rw [if_pos hw3]; exact h5s, hg 6 (by omega) (by omega) (by omega) (by omega), by rw [hg 7 (by omega) (by omega) (by omega) (by omega), if_neg (by omega)], by rw [if_pos hw3]; exact h8, fun g hh => hg g (by omega) (by omega) (by omega) (by omega)⟩)
            | (subst hw4
               exact ⟨S1, rfl, rfl, hM, hP, ⟨h3, h4s, by rw [hg 5 (by omega) (by omega) (by omega)]; exact h5, hg 6 (by omega) (by omega) (by omega), by rw [hg 7 (by omega) (by omega) (by omega)]; rfl, by rw [hg 8 (by omega) (by omega) (by omega)]; rfl, fun g hh => hg g (by omega) (by omega) (by omega)⟩, hF⟩)
            | (subst hw5
               exact ⟨S1, rfl, rfl, hM, hP, ⟨h3, by rw [hg 4 (by omega) (by omega) (by omega)]; exact h4, by rw [hg 5 (by omega) (by omega) (by omega)]; exact h5, hg 6 (by omega) (by omega) (by omega), h7, by rw [hg 8 (by omega) (by omega) (by omega)]; rfl, fun g hh => hg g (by omega) (by omega) (by omega)⟩, hF⟩)
            | (subst hw6
               exact ⟨_, rfl, rfl, hM, hP1.up (by omega), ⟨by rw [tup_s, hX1 3 (by omega)]; rfl, by rw [tup_n (by decide), hX1 4 (by omega)]; exact h4, by rw [tup_n (by decide), hX1 5 (by omega)]; exact h5, by rw [tup_n (by decide), hX1 6 (by omega)], by rw [tup_n (by decide), hX1 7 (by omega)]; rfl, by rw [tup_n (by decide), hX1 8 (by omega)]; rfl, fun g hh => by rw [tup_n (by omega), hX1 g (by omega)]⟩, hF⟩)
            | (subst hw7
               exact ⟨_, rfl, rfl, hM, hP1.up (by omega), ⟨by rw [tup_s, hX1 3 (by omega)]; rfl, by rw [tup_n (by decide), hX1 4 (by omega)]; exact h4, by rw [tup_n (by decide), hX1 5 (by omega)]; exact h5, by rw [tup_n (by decide), hX1 6 (by omega)], by rw [tup_n (by decide), hX1 7 (by omega)]; rfl, by rw [tup_n (by decide), hX1 8 (by omega)]; rfl, fun g hh => by rw [tup_n (by omega), hX1 g (by omega)]⟩, hF⟩)
        · have hw6 : wd = 6 := nI_ij (b := 6) (by omega) (by decide) c_40
          refine st_aload_n (q := 44) dX7_readMore_43 rfl rfl rfl ?_
          refine g_getA (q := 47) dX7_readMore_44 rfl fl_X7_13.g hM rfl ?_
          refine st_bipush (q := 49) dX7_readMore_47 rfl bp_67 ?_
          refine st_aload_n (q := 50) dX7_readMore_49 rfl rfl rfl ?_
          refine st_iconst (q := 51) dX7_readMore_50 rfl ic_0 ?_
          refine st_bipush (q := 53) dX7_readMore_51 rfl bp_8 ?_
          refine sm_V2 (q := 56) (M' := mX7_number) dX7_readMore_53 rfl ok_X7_number mk_X7_number ml_X7_91 ⟨Nat.le_of_ble_eq_true rfl, Nat.le_of_ble_eq_true rfl⟩ rfl (Nat.le_of_ble_eq_true rfl) (g_rv hM rfl) ⟨rfl, rfl⟩ (c_X7_number hF hM (hK) (hT) (lo := 0) (hi := 8)) ?_
          intro _ n w h9 _
          obtain ⟨S1, rfl, rfl, hM, hP1, hX1, hF⟩ := h9
          refine st_iconst (q := 57) dX7_readMore_56 rfl ic_4 ?_
          refine st_isub (q := 58) dX7_readMore_57 rfl ?_
          refine m_ast (q := 59) dX7_readMore_58 rfl hM (i := 3) (by decide) rfl (by exact ev_ix_nI (j := 67) (by decide) (by decide)) (fun w hM hF_ => ?_)
          replace hF := Fr.tr hF hF_
          refine st_goto (q := 76) dX7_readMore_59 rfl ?_
          refine st_return dX7_readMore_76 rfl ?_
          first
            | (refine ⟨S1, rfl, rfl, hM, ?_, ?_, hF⟩
               · match wd, hw3 with
                 | 0, _ => exact hP
                 | 1, _ => exact hP
                 | 2, _ => exact hP
                 | 3, _ => exact hP
               · have hv : ∀ wd, wd < 4 → chV b tl wd (moL wd).length 0 (xw wd (S 7 0) x) = [numV 0 3 x, numV 1 9 (numX b tl 0 3 x), numV 0 9 (numX b tl 1 9 (numX b tl 0 3 x))] := fun wd hw => by
                   match wd, hw with
                   | 0, _ => rfl
                   | 1, _ => rfl
                   | 2, _ => rfl
                   | 3, _ => rfl
                 rw [hv wd hw3]
                 refine ⟨by rw [h3, pgU, if_pos hw3]; rfl, by rw [hg 4 (by omega) (by omega) (by omega) (by omega), if_neg (by omega)]; exact h4, by rw [if_pos hw3]; exact h5s, hg 6 (by omega) (by omega) (by omega) (by omega), by rw [hg 7 (by omega) (by omega) (by omega) (by omega), if_neg (by omega)], by rw [if_pos hw3]; exact h8, fun g hh => hg g (by omega) (by omega) (by omega) (by omega)⟩)
            | (subst hw4
               exact ⟨S1, rfl, rfl, hM, hP, ⟨h3, h4s, by rw [hg 5 (by omega) (by omega) (by omega)]; exact h5, hg 6 (by omega) (by omega) (by omega), by rw [hg 7 (by omega) (by omega) (by omega)]; rfl, by rw [hg 8 (by omega) (by omega) (by omega)]; rfl, fun g hh => hg g (by omega) (by omega) (by omega)⟩, hF⟩)
            | (subst hw5
               exact ⟨S1, rfl, rfl, hM, hP, ⟨h3, by rw [hg 4 (by omega) (by omega) (by omega)]; exact h4, by rw [hg 5 (by omega) (by omega) (by omega)]; exact h5, hg 6 (by omega) (by omega) (by omega), h7, by rw [hg 8 (by omega) (by omega) (by omega)]; rfl, fun g hh => hg g (by omega) (by omega) (by omega)⟩, hF⟩)
            | (subst hw6
               exact ⟨_, rfl, rfl, hM, hP1.up (by omega), ⟨by rw [tup_s, hX1 3 (by omega)]; rfl, by rw [tup_n (by decide), hX1 4 (by omega)]; exact h4, by rw [tup_n (by decide), hX1 5 (by omega)]; exact h5, by rw [tup_n (by decide), hX1 6 (by omega)], by rw [tup_n (by decide), hX1 7 (by omega)]; rfl, by rw [tup_n (by decide), hX1 8 (by omega)]; rfl, fun g hh => by rw [tup_n (by omega), hX1 g (by omega)]⟩, hF⟩)
            | (subst hw7
               exact ⟨_, rfl, rfl, hM, hP1.up (by omega), ⟨by rw [tup_s, hX1 3 (by omega)]; rfl, by rw [tup_n (by decide), hX1 4 (by omega)]; exact h4, by rw [tup_n (by decide), hX1 5 (by omega)]; exact h5, by rw [tup_n (by decide), hX1 6 (by omega)], by rw [tup_n (by decide), hX1 7 (by omega)]; rfl, by rw [tup_n (by decide), hX1 8 (by omega)]; rfl, fun g hh => by rw [tup_n (by omega), hX1 g (by omega)]⟩, hF⟩)
      · have hw5 : wd = 5 := nI_ij (b := 5) (by omega) (by decide) c_27
        refine st_aload_n (q := 31) dX7_readMore_30 rfl rfl rfl ?_
        refine sm_V0 (q := 34) (M' := mX7_readRise) dX7_readMore_31 rfl ok_X7_readRise mk_X7_readRise ml_X7_115 ⟨Nat.le_of_ble_eq_true rfl, Nat.le_of_ble_eq_true rfl⟩ rfl (Nat.le_of_ble_eq_true rfl) (g_rv hM rfl) ⟨rfl, rfl⟩ (c_X7_readRise hF hM hK hT ) ?_
        intro _ n w h9 _
        obtain ⟨S1, rfl, rfl, hM, hP, h3, h7, hg, hF⟩ := h9
        refine st_goto (q := 76) dX7_readMore_34 rfl ?_
        refine st_return dX7_readMore_76 rfl ?_
        first
          | (refine ⟨S1, rfl, rfl, hM, ?_, ?_, hF⟩
             · match wd, hw3 with
               | 0, _ => exact hP
               | 1, _ => exact hP
               | 2, _ => exact hP
               | 3, _ => exact hP
             · have hv : ∀ wd, wd < 4 → chV b tl wd (moL wd).length 0 (xw wd (S 7 0) x) = [numV 0 3 x, numV 1 9 (numX b tl 0 3 x), numV 0 9 (numX b tl 1 9 (numX b tl 0 3 x))] := fun wd hw => by
                 match wd, hw with
                 | 0, _ => rfl
                 | 1, _ => rfl
                 | 2, _ => rfl
                 | 3, _ => rfl
               rw [hv wd hw3]
               refine ⟨by rw [h3, pgU, if_pos hw3]; rfl, by rw [hg 4 (by omega) (by omega) (by omega) (by omega), if_neg (by omega)]; exact h4, by rw [if_pos hw3]; exact h5s, hg 6 (by omega) (by omega) (by omega) (by omega), by rw [hg 7 (by omega) (by omega) (by omega) (by omega), if_neg (by omega)], by rw [if_pos hw3]; exact h8, fun g hh => hg g (by omega) (by omega) (by omega) (by omega)⟩)
          | (subst hw4
             exact ⟨S1, rfl, rfl, hM, hP, ⟨h3, h4s, by rw [hg 5 (by omega) (by omega) (by omega)]; exact h5, hg 6 (by omega) (by omega) (by omega), by rw [hg 7 (by omega) (by omega) (by omega)]; rfl, by rw [hg 8 (by omega) (by omega) (by omega)]; rfl, fun g hh => hg g (by omega) (by omega) (by omega)⟩, hF⟩)
          | (subst hw5
             exact ⟨S1, rfl, rfl, hM, hP, ⟨h3, by rw [hg 4 (by omega) (by omega) (by omega)]; exact h4, by rw [hg 5 (by omega) (by omega) (by omega)]; exact h5, hg 6 (by omega) (by omega) (by omega), h7, by rw [hg 8 (by omega) (by omega) (by omega)]; rfl, fun g hh => hg g (by omega) (by omega) (by omega)⟩, hF⟩)
          | (subst hw6
             exact ⟨_, rfl, rfl, hM, hP1.up (by omega), ⟨by rw [tup_s, hX1 3 (by omega)]; rfl, by rw [tup_n (by decide), hX1 4 (by omega)]; exact h4, by rw [tup_n (by decide), hX1 5 (by omega)]; exact h5, by rw [tup_n (by decide), hX1 6 (by omega)], by rw [tup_n (by decide), hX1 7 (by omega)]; rfl, by rw [tup_n (by decide), hX1 8 (by omega)]; rfl, fun g hh => by rw [tup_n (by omega), hX1 g (by omega)]⟩, hF⟩)
          | (subst hw7
             exact ⟨_, rfl, rfl, hM, hP1.up (by omega), ⟨by rw [tup_s, hX1 3 (by omega)]; rfl, by rw [tup_n (by decide), hX1 4 (by omega)]; exact h4, by rw [tup_n (by decide), hX1 5 (by omega)]; exact h5, by rw [tup_n (by decide), hX1 6 (by omega)], by rw [tup_n (by decide), hX1 7 (by omega)]; rfl, by rw [tup_n (by decide), hX1 8 (by omega)]; rfl, fun g hh => by rw [tup_n (by omega), hX1 g (by omega)]⟩, hF⟩)
    · have hw4 : wd = 4 := nI_ij (b := 4) (by omega) (by decide) c_15
      refine st_aload_n (q := 19) dX7_readMore_18 rfl rfl rfl ?_
      refine sm_V0 (q := 22) (M' := mX7_readHouse) dX7_readMore_19 rfl ok_X7_readHouse mk_X7_readHouse ml_X7_112 ⟨Nat.le_of_ble_eq_true rfl, Nat.le_of_ble_eq_true rfl⟩ rfl (Nat.le_of_ble_eq_true rfl) (g_rv hM rfl) ⟨rfl, rfl⟩ (c_X7_readHouse hF hM hK hT h4 (hnh hw4)) ?_
      intro _ n w h9 _
      obtain ⟨S1, rfl, rfl, hM, hP, h3, h4s, hg, hF⟩ := h9
      refine st_goto (q := 76) dX7_readMore_22 rfl ?_
      refine st_return dX7_readMore_76 rfl ?_
      first
        | (refine ⟨S1, rfl, rfl, hM, ?_, ?_, hF⟩
           · match wd, hw3 with
             | 0, _ => exact hP
             | 1, _ => exact hP
             | 2, _ => exact hP
             | 3, _ => exact hP
           · have hv : ∀ wd, wd < 4 → chV b tl wd (moL wd).length 0 (xw wd (S 7 0) x) = [numV 0 3 x, numV 1 9 (numX b tl 0 3 x), numV 0 9 (numX b tl 1 9 (numX b tl 0 3 x))] := fun wd hw => by
               match wd, hw with
               | 0, _ => rfl
               | 1, _ => rfl
               | 2, _ => rfl
               | 3, _ => rfl
             rw [hv wd hw3]
             refine ⟨by rw [h3, pgU, if_pos hw3]; rfl, by rw [hg 4 (by omega) (by omega) (by omega) (by omega), if_neg (by omega)]; exact h4, by rw [if_pos hw3]; exact h5s, hg 6 (by omega) (by omega) (by omega) (by omega), by rw [hg 7 (by omega) (by omega) (by omega) (by omega), if_neg (by omega)], by rw [if_pos hw3]; exact h8, fun g hh => hg g (by omega) (by omega) (by omega) (by omega)⟩)
        | (subst hw4
           exact ⟨S1, rfl, rfl, hM, hP, ⟨h3, h4s, by rw [hg 5 (by omega) (by omega) (by omega)]; exact h5, hg 6 (by omega) (by omega) (by omega), by rw [hg 7 (by omega) (by omega) (by omega)]; rfl, by rw [hg 8 (by omega) (by omega) (by omega)]; rfl, fun g hh => hg g (by omega) (by omega) (by omega)⟩, hF⟩)
        | (subst hw5
           exact ⟨S1, rfl, rfl, hM, hP, ⟨h3, by rw [hg 4 (by omega) (by omega) (by omega)]; exact h4, by rw [hg 5 (by omega) (by omega) (by omega)]; exact h5, hg 6 (by omega) (by omega) (by omega), h7, by rw [hg 8 (by omega) (by omega) (by omega)]; rfl, fun g hh => hg g (by omega) (by omega) (by omega)⟩, hF⟩)
        | (subst hw6
           exact ⟨_, rfl, rfl, hM, hP1.up (by omega), ⟨by rw [tup_s, hX1 3 (by omega)]; rfl, by rw [tup_n (by decide), hX1 4 (by omega)]; exact h4, by rw [tup_n (by decide), hX1 5 (by omega)]; exact h5, by rw [tup_n (by decide), hX1 6 (by omega)], by rw [tup_n (by decide), hX1 7 (by omega)]; rfl, by rw [tup_n (by decide), hX1 8 (by omega)]; rfl, fun g hh => by rw [tup_n (by omega), hX1 g (by omega)]⟩, hF⟩)
        | (subst hw7
           exact ⟨_, rfl, rfl, hM, hP1.up (by omega), ⟨by rw [tup_s, hX1 3 (by omega)]; rfl, by rw [tup_n (by decide), hX1 4 (by omega)]; exact h4, by rw [tup_n (by decide), hX1 5 (by omega)]; exact h5, by rw [tup_n (by decide), hX1 6 (by omega)], by rw [tup_n (by decide), hX1 7 (by omega)]; rfl, by rw [tup_n (by decide), hX1 8 (by omega)]; rfl, fun g hh => by rw [tup_n (by omega), hX1 g (by omega)]⟩, hF⟩)
  · have hw3 : wd < 4 := Nat.lt_of_not_le (fun z => c_2 ((nI_ltiff (a := 3) (b := wd) (by decide) (by omega)).mpr z))
    refine st_aload_n (q := 6) dX7_readMore_5 rfl rfl rfl ?_
    refine st_iload_n (q := 7) dX7_readMore_6 rfl rfl rfl ?_
    refine sm_V1 (q := 10) (M' := mX7_readThing) dX7_readMore_7 rfl ok_X7_readThing mk_X7_readThing ml_X7_109 ⟨Nat.le_of_ble_eq_true rfl, Nat.le_of_ble_eq_true rfl⟩ rfl (Nat.le_of_ble_eq_true rfl) (g_rv hM rfl) ⟨rfl, rfl⟩ (c_X7_readThing hF hM hK hT h5 (hnt hw3)) ?_
    intro _ n w h9 _
    obtain ⟨S1, rfl, rfl, hM, hP, h3, h5s, h8, hg, hF⟩ := h9
    refine st_goto (q := 76) dX7_readMore_10 rfl ?_
    refine st_return dX7_readMore_76 rfl ?_
    first
      | (refine ⟨S1, rfl, rfl, hM, ?_, ?_, hF⟩
         · match wd, hw3 with
           | 0, _ => exact hP
           | 1, _ => exact hP
           | 2, _ => exact hP
           | 3, _ => exact hP
         · have hv : ∀ wd, wd < 4 → chV b tl wd (moL wd).length 0 (xw wd (S 7 0) x) = [numV 0 3 x, numV 1 9 (numX b tl 0 3 x), numV 0 9 (numX b tl 1 9 (numX b tl 0 3 x))] := fun wd hw => by
             match wd, hw with
             | 0, _ => rfl
             | 1, _ => rfl
             | 2, _ => rfl
             | 3, _ => rfl
           rw [hv wd hw3]
           refine ⟨by rw [h3, pgU, if_pos hw3]; rfl, by rw [hg 4 (by omega) (by omega) (by omega) (by omega), if_neg (by omega)]; exact h4, by rw [if_pos hw3]; exact h5s, hg 6 (by omega) (by omega) (by omega) (by omega), by rw [hg 7 (by omega) (by omega) (by omega) (by omega), if_neg (by omega)], by rw [if_pos hw3]; exact h8, fun g hh => hg g (by omega) (by omega) (by omega) (by omega)⟩)
      | (subst hw4
         exact ⟨S1, rfl, rfl, hM, hP, ⟨h3, h4s, by rw [hg 5 (by omega) (by omega) (by omega)]; exact h5, hg 6 (by omega) (by omega) (by omega), by rw [hg 7 (by omega) (by omega) (by omega)]; rfl, by rw [hg 8 (by omega) (by omega) (by omega)]; rfl, fun g hh => hg g (by omega) (by omega) (by omega)⟩, hF⟩)
      | (subst hw5
         exact ⟨S1, rfl, rfl, hM, hP, ⟨h3, by rw [hg 4 (by omega) (by omega) (by omega)]; exact h4, by rw [hg 5 (by omega) (by omega) (by omega)]; exact h5, hg 6 (by omega) (by omega) (by omega), h7, by rw [hg 8 (by omega) (by omega) (by omega)]; rfl, fun g hh => hg g (by omega) (by omega) (by omega)⟩, hF⟩)
      | (subst hw6
         exact ⟨_, rfl, rfl, hM, hP1.up (by omega), ⟨by rw [tup_s, hX1 3 (by omega)]; rfl, by rw [tup_n (by decide), hX1 4 (by omega)]; exact h4, by rw [tup_n (by decide), hX1 5 (by omega)]; exact h5, by rw [tup_n (by decide), hX1 6 (by omega)], by rw [tup_n (by decide), hX1 7 (by omega)]; rfl, by rw [tup_n (by decide), hX1 8 (by omega)]; rfl, fun g hh => by rw [tup_n (by omega), hX1 g (by omega)]⟩, hF⟩)
      | (subst hw7
         exact ⟨_, rfl, rfl, hM, hP1.up (by omega), ⟨by rw [tup_s, hX1 3 (by omega)]; rfl, by rw [tup_n (by decide), hX1 4 (by omega)]; exact h4, by rw [tup_n (by decide), hX1 5 (by omega)]; exact h5, by rw [tup_n (by decide), hX1 6 (by omega)], by rw [tup_n (by decide), hX1 7 (by omega)]; rfl, by rw [tup_n (by decide), hX1 8 (by omega)]; rfl, fun g hh => by rw [tup_n (by omega), hX1 g (by omega)]⟩, hF⟩)
