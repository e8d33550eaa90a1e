def enL : List Nat := [0, 5, 10, 16, 20, 25, 29, 33, 38]
def ltL : List Int32 := [112, 108, 97, 105, 110, 112, 105, 97, 110, 111, 102, 97, 116, 104, 101, 114, 115, 101, 108, 102, 104, 111, 117, 115, 101, 114, 105, 115, 101, 119, 105, 110, 100, 108, 101, 118, 101, 108]
def EL (S : gT) : Prop := (∀ k, k < 9 → S 18 k = nI (enL.getD k 0)) ∧ ∀ k, k < 38 → S 19 k = ltL.getD k 0
theorem en_t : ∀ i, i < 8 → enL.getD i 0 ≤ enL.getD (i + 1) 0 ∧ enL.getD (i + 1) 0 - enL.getD i 0 = (ev_sb i).length ∧ enL.getD (i + 1) 0 ≤ 38 := by decide
theorem lt_t : ∀ i, i < 8 → ∀ k, k < (ev_sb i).length → ltL.getD (enL.getD i 0 + k) 0 = (ev_sb i).getD k 0 := by decide
def nmA (b : Nat → Int32) (q : Nat × Nat × Nat × Int32) : Int32 := if q.1 = 1 then (if wdF b q.2.1 q.2.2.1 0 8 < 8 then nI (wdF b q.2.1 q.2.2.1 0 8) else -4) else -4
set_option maxRecDepth 100000 in
set_option maxHeartbeats 4000000 in
theorem c_X7_nameHere {E : ev_E} {n : Nat} {w : ev_W} {S : gT} {f : Nat → Int32} {w0 : ev_W} (hF : Fr 70 82 w0 w) (hM : MR S f 70 n w) {b : Nat → Int32} {tl : Nat} (hK : KX S b tl) (hE : EL S) {q : Nat × Nat × Nat × Int32} (hT : PT S tl (.inr q)) : Ct E mX7_nameHere [.ref 70] n w (ev_is (some (.int (nmA b q))) n w) := by
  refine Ct.of 3 (by decide) (Nat.le_of_ble_eq_true rfl) rfl ?_
  have ht := hK.2.2.1
  have h14 : S 14 0 = nI q.2.2.1 := hT.2.1
  have h15 : S 15 0 = nI q.2.1 := hT.2.2.1
  have h16 : S 16 0 = nI q.1 := hT.2.2.2.1
  have hq1t : q.2.1 ≤ q.2.2.1 := hT.2.2.2.2.2.1
  have hq2t : q.2.2.1 ≤ tl := hT.2.2.2.2.2.2.1
  have hq3t : q.1 ≤ 3 := hT.2.2.2.2.2.2.2
  obtain ⟨X9, hX9⟩ : ∃ X9, X9 = wdF b q.2.1 q.2.2.1 0 8 := ⟨_, rfl⟩
  have lp : ∀ (k i : Nat), i + k = 8 → wdF b q.2.1 q.2.2.1 i k = X9 → ∀ (l2 l3 : Option Value), Ev E mX7_nameHere 2 [some (.ref 70), some (.int (nI i)), l2, l3] [] n w (0, 0) (ev_is (some (.int (nmA b q))) n w) := by
    intro k
    induction k with
    | zero =>
      intro i hi hX l2 l3
      obtain rfl : 8 = i := by omega
      refine st_iload_n (q := 3) dX7_nameHere_2 rfl rfl rfl ?_
      refine st_bipush (q := 5) dX7_nameHere_3 rfl bp_8 ?_
      refine st_icmp_ge (q := 8) (tgt := 118) dX7_nameHere_5 rfl rfl (fun c_5 => ?_) (fun c_5 => False.elim (c_5 (by decide)))
      refine st_bipush (q := 120) dX7_nameHere_118 rfl bp_m4 ?_
      refine st_ireturn dX7_nameHere_120 rfl ?_
      refine ⟨?_, rfl, rfl⟩
      by_cases hq1 : q.1 = 1
      · rw [nmA, if_pos hq1, ← hX9, ← hX, wdF, if_neg (by decide)]
      · rw [nmA, if_neg hq1]
    | succ k ih =>
      intro i hi hX l2 l3
      have bad : splF b q.2.1 q.2.2.1 i = false → ∀ (y : Int32), Ev E mX7_nameHere 51 [some (.ref 70), some (.int (nI i)), some (.int 0), some (.int y)] [] n w (0, 0) (ev_is (some (.int (nmA b q))) n w) := by
        intro hsp y
        refine st_iload_n (q := 52) dX7_nameHere_51 rfl rfl rfl ?_
        refine st_if_eq (q := 55) (tgt := 106) dX7_nameHere_52 rfl rfl (fun c_52 => ?_) (fun c_52 => False.elim (c_52 rfl))
        refine st_iload_n (q := 107) dX7_nameHere_106 rfl rfl rfl ?_
        refine st_if_eq (q := 110) (tgt := 112) dX7_nameHere_107 rfl rfl (fun c_107 => ?_) (fun c_107 => False.elim (c_107 rfl))
        refine st_iinc (q := 115) (L' := [_, _, _, _]) dX7_nameHere_112 rfl rfl (nI_succ _).symm (Nat.le_of_ble_eq_true rfl) rfl ?_
        refine st_goto (q := 2) dX7_nameHere_115 rfl ?_
        exact ih (i + 1) (by omega) (by rw [← hX, wdF, if_neg (by rw [hsp]; decide)]) _ _
      refine st_iload_n (q := 3) dX7_nameHere_2 rfl rfl rfl ?_
      refine st_bipush (q := 5) dX7_nameHere_3 rfl bp_8 ?_
      refine st_icmp_ge (q := 8) (tgt := 118) dX7_nameHere_5 rfl rfl (fun c_5 => False.elim (absurd c_5 (nI_ge (a := i) (b := 8) (by omega) (by omega)))) (fun c_5 => ?_)
      refine st_aload_n (q := 9) dX7_nameHere_8 rfl rfl rfl ?_
      refine m_get (q := 12) dX7_nameHere_9 rfl fl_X7_63.g hM (by decide) rfl ?_
      rw [h16]
      refine st_iconst (q := 13) dX7_nameHere_12 rfl ic_1 ?_
      refine st_icmp_ne (q := 16) (tgt := 118) dX7_nameHere_13 rfl rfl (fun c_13 => ?_) (fun c_13 => ?_)
      · refine st_bipush (q := 120) dX7_nameHere_118 rfl bp_m4 ?_
        refine st_ireturn dX7_nameHere_120 rfl ?_
        exact ⟨by rw [nmA, if_neg (fun z => c_13 (by rw [z]; rfl))], rfl, rfl⟩
      · have hq1 : q.1 = 1 := nI_ij (b := 1) (by omega) (by decide) c_13
        have hen := en_t i (by omega)
        refine st_aload_n (q := 17) dX7_nameHere_16 rfl rfl rfl ?_
        refine m_get (q := 20) dX7_nameHere_17 rfl fl_X7_66.g hM (by decide) rfl ?_
        refine st_aload_n (q := 21) dX7_nameHere_20 rfl rfl rfl ?_
        refine m_get (q := 24) dX7_nameHere_21 rfl fl_X7_57.g hM (by decide) rfl ?_
        rw [h14, h15]
        refine st_isub (q := 25) dX7_nameHere_24 rfl ?_
        rw [nI_sb (by omega)]
        refine st_aload_n (q := 26) dX7_nameHere_25 rfl rfl rfl ?_
        refine g_getA (q := 29) dX7_nameHere_26 rfl fl_X7_19.g hM rfl ?_
        refine st_iload_n (q := 30) dX7_nameHere_29 rfl rfl rfl ?_
        refine st_iconst (q := 31) dX7_nameHere_30 rfl ic_1 ?_
        refine st_iadd (q := 32) dX7_nameHere_31 rfl ?_
        refine m_ald (q := 33) dX7_nameHere_32 rfl hM (i := 18) (by decide) rfl (by exact ix2 (a := i) (b := 1) (by omega) (by decide)) ?_
        rw [hE.1 (i + 1) (by omega)]
        refine st_aload_n (q := 34) dX7_nameHere_33 rfl rfl rfl ?_
        refine g_getA (q := 37) dX7_nameHere_34 rfl fl_X7_19.g hM rfl ?_
        refine st_iload_n (q := 38) dX7_nameHere_37 rfl rfl rfl ?_
        refine m_ald (q := 39) dX7_nameHere_38 rfl hM (i := 18) (by decide) rfl (by exact ev_ix_nI (j := i) (by omega) (by decide)) ?_
        rw [hE.1 i (by omega)]
        refine st_isub (q := 40) dX7_nameHere_39 rfl ?_
        rw [nI_sb hen.1, hen.2.1]
        refine st_icmp_ne (q := 43) (tgt := 47) dX7_nameHere_40 rfl rfl (fun c_40 => ?_) (fun c_40 => ?_)
        · refine st_iconst (q := 48) dX7_nameHere_47 rfl ic_0 ?_
          refine st_istore_n (q := 49) (L' := [_, _, _, _]) dX7_nameHere_48 rfl rfl (Nat.le_of_ble_eq_true rfl) rfl ?_
          refine st_iconst (q := 50) dX7_nameHere_49 rfl ic_0 ?_
          refine st_istore_n (q := 51) (L' := [_, _, _, _]) dX7_nameHere_50 rfl rfl (Nat.le_of_ble_eq_true rfl) rfl ?_
          first
            | (have hlen : (ev_sb i).length = q.2.2.1 - q.2.1 := (nI_ij (by omega) (by omega) c_40).symm
               have inn : ∀ (k2 r : Nat), r + k2 = (ev_sb i).length → (∀ k, k < r → (ev_sb i).getD k 0 = b (q.2.1 + k)) → Ev E mX7_nameHere 51 [some (.ref 70), some (.int (nI i)), some (.int 1), some (.int (nI r))] [] n w (0, 0) (ev_is (some (.int (nmA b q))) n w) := by
                 intro k2
                 induction k2 with
                 | zero =>
                   intro r hr hall
                   obtain rfl : (ev_sb i).length = r := by omega
                   refine st_iload_n (q := 52) dX7_nameHere_51 rfl rfl rfl ?_
                   refine st_if_eq (q := 55) (tgt := 106) dX7_nameHere_52 rfl rfl (fun c_52 => False.elim (absurd c_52 (by decide))) (fun c_52 => ?_)
                   refine st_iload_n (q := 56) dX7_nameHere_55 rfl rfl rfl ?_
                   refine st_aload_n (q := 57) dX7_nameHere_56 rfl rfl rfl ?_
                   refine m_get (q := 60) dX7_nameHere_57 rfl fl_X7_66.g hM (by decide) rfl ?_
                   refine st_aload_n (q := 61) dX7_nameHere_60 rfl rfl rfl ?_
                   refine m_get (q := 64) dX7_nameHere_61 rfl fl_X7_57.g hM (by decide) rfl ?_
                   rw [h14, h15]
                   refine st_isub (q := 65) dX7_nameHere_64 rfl ?_
                   rw [nI_sb (by omega)]
                   refine st_icmp_ge (q := 68) (tgt := 106) dX7_nameHere_65 rfl rfl (fun c_65 => ?_) (fun c_65 => False.elim (c_65 (by rw [← hlen]; exact Int32.le_refl _)))
                   refine st_iload_n (q := 107) dX7_nameHere_106 rfl rfl rfl ?_
                   refine st_if_eq (q := 110) (tgt := 112) dX7_nameHere_107 rfl rfl (fun c_107 => False.elim (absurd c_107 (by decide))) (fun c_107 => ?_)
                   refine st_iload_n (q := 111) dX7_nameHere_110 rfl rfl rfl ?_
                   refine st_ireturn dX7_nameHere_111 rfl ?_
                   have hsp : splF b q.2.1 q.2.2.1 i = true := by
                     unfold splF
                     rw [decide_eq_true hlen, Bool.true_and]
                     exact List.all_eq_true.mpr (fun k hk => decide_eq_true (hall k (List.mem_range.mp hk)))
                   have hXi : i = X9 := by rw [← hX, wdF, if_pos hsp]
                   exact ⟨by rw [nmA, if_pos hq1, ← hX9, ← hXi, if_pos (by omega)], rfl, rfl⟩
                 | succ k2 ih2 =>
                   intro r hr hall
                   refine st_iload_n (q := 52) dX7_nameHere_51 rfl rfl rfl ?_
                   refine st_if_eq (q := 55) (tgt := 106) dX7_nameHere_52 rfl rfl (fun c_52 => False.elim (absurd c_52 (by decide))) (fun c_52 => ?_)
                   refine st_iload_n (q := 56) dX7_nameHere_55 rfl rfl rfl ?_
                   refine st_aload_n (q := 57) dX7_nameHere_56 rfl rfl rfl ?_
                   refine m_get (q := 60) dX7_nameHere_57 rfl fl_X7_66.g hM (by decide) rfl ?_
                   refine st_aload_n (q := 61) dX7_nameHere_60 rfl rfl rfl ?_
                   refine m_get (q := 64) dX7_nameHere_61 rfl fl_X7_57.g hM (by decide) rfl ?_
                   rw [h14, h15]
                   refine st_isub (q := 65) dX7_nameHere_64 rfl ?_
                   rw [nI_sb (by omega)]
                   refine st_icmp_ge (q := 68) (tgt := 106) dX7_nameHere_65 rfl rfl (fun c_65 => False.elim (absurd c_65 (by rw [← hlen]; exact nI_ge (a := r) (by omega) (by omega)))) (fun c_65 => ?_)
                   refine st_aload_n (q := 69) dX7_nameHere_68 rfl rfl rfl ?_
                   refine st_aload_n (q := 70) dX7_nameHere_69 rfl rfl rfl ?_
                   refine m_get (q := 73) dX7_nameHere_70 rfl fl_X7_57.g hM (by decide) rfl ?_
                   refine st_iload_n (q := 74) dX7_nameHere_73 rfl rfl rfl ?_
                   rw [h15]
                   refine st_iadd (q := 75) dX7_nameHere_74 rfl ?_
                   rw [nI_add]
                   refine sp_V1 (q := 78) (M' := mX7_byteAt) dX7_nameHere_75 rfl ok_X7_byteAt mk_X7_byteAt ml_X7_69 ⟨Nat.le_of_ble_eq_true rfl, Nat.le_of_ble_eq_true rfl⟩ rfl (Nat.le_of_ble_eq_true rfl) (g_rv hM rfl) ⟨rfl, rfl⟩ (c_X7_byteAt Fr.rf hM hK (k := q.2.1 + r) (by omega)) ?_
                   refine st_aload_n (q := 79) dX7_nameHere_78 rfl rfl rfl ?_
                   refine g_getA (q := 82) dX7_nameHere_79 rfl fl_X7_22.g hM rfl ?_
                   refine st_aload_n (q := 83) dX7_nameHere_82 rfl rfl rfl ?_
                   refine g_getA (q := 86) dX7_nameHere_83 rfl fl_X7_19.g hM rfl ?_
                   refine st_iload_n (q := 87) dX7_nameHere_86 rfl rfl rfl ?_
                   refine m_ald (q := 88) dX7_nameHere_87 rfl hM (i := 18) (by decide) rfl (by exact ev_ix_nI (j := i) (by omega) (by decide)) ?_
                   rw [hE.1 i (by omega)]
                   refine st_iload_n (q := 89) dX7_nameHere_88 rfl rfl rfl ?_
                   refine st_iadd (q := 90) dX7_nameHere_89 rfl ?_
                   refine m_ald (q := 91) dX7_nameHere_90 rfl hM (i := 19) (by decide) rfl (by exact ix2 (a := enL.getD i 0) (b := r) (by omega) (by decide)) ?_
                   rw [hE.2 _ (by omega), lt_t i (by omega) r (by omega), btA, if_pos (by omega)]
                   refine st_icmp_ne (q := 94) (tgt := 98) dX7_nameHere_91 rfl rfl (fun c_91 => ?_) (fun c_91 => ?_)
                   · refine st_iconst (q := 99) dX7_nameHere_98 rfl ic_0 ?_
                     refine st_istore_n (q := 100) (L' := [_, _, _, _]) dX7_nameHere_99 rfl rfl (Nat.le_of_ble_eq_true rfl) rfl ?_
                     refine st_iinc (q := 103) (L' := [_, _, _, _]) dX7_nameHere_100 rfl rfl (nI_succ _).symm (Nat.le_of_ble_eq_true rfl) rfl ?_
                     refine st_goto (q := 51) dX7_nameHere_103 rfl ?_
                     first
                       | (refine ih2 (r + 1) (by omega) (fun k hk => ?_)
                          by_cases e : k = r
                          · subst e; exact c_91.symm
                          · exact hall k (by omega))
                       | (refine bad ?_ _
                          unfold splF
                          rw [decide_eq_true hlen, Bool.true_and]
                          refine List.all_eq_false.mpr ⟨r, List.mem_range.mpr (by omega), ?_⟩
                          rw [decide_eq_true_eq]
                          exact fun z => c_91 z.symm)
                   · refine st_iconst (q := 95) dX7_nameHere_94 rfl ic_1 ?_
                     refine st_goto (q := 99) dX7_nameHere_95 rfl ?_
                     refine st_istore_n (q := 100) (L' := [_, _, _, _]) dX7_nameHere_99 rfl rfl (Nat.le_of_ble_eq_true rfl) rfl ?_
                     refine st_iinc (q := 103) (L' := [_, _, _, _]) dX7_nameHere_100 rfl rfl (nI_succ _).symm (Nat.le_of_ble_eq_true rfl) rfl ?_
                     refine st_goto (q := 51) dX7_nameHere_103 rfl ?_
                     first
                       | (refine ih2 (r + 1) (by omega) (fun k hk => ?_)
                          by_cases e : k = r
                          · subst e; exact c_91.symm
                          · exact hall k (by omega))
                       | (refine bad ?_ _
                          unfold splF
                          rw [decide_eq_true hlen, Bool.true_and]
                          refine List.all_eq_false.mpr ⟨r, List.mem_range.mpr (by omega), ?_⟩
                          rw [decide_eq_true_eq]
                          exact fun z => c_91 z.symm)
               exact inn (ev_sb i).length 0 (by omega) (fun k hk => absurd hk (Nat.not_lt_zero k)))
            | (refine bad ?_ _
               unfold splF
               rw [decide_eq_false (fun z => c_40 (by rw [z]))]
               rfl)
        · refine st_iconst (q := 44) dX7_nameHere_43 rfl ic_1 ?_
          refine st_goto (q := 48) dX7_nameHere_44 rfl ?_
          refine st_istore_n (q := 49) (L' := [_, _, _, _]) dX7_nameHere_48 rfl rfl (Nat.le_of_ble_eq_true rfl) rfl ?_
          refine st_iconst (q := 50) dX7_nameHere_49 rfl ic_0 ?_
          refine st_istore_n (q := 51) (L' := [_, _, _, _]) dX7_nameHere_50 rfl rfl (Nat.le_of_ble_eq_true rfl) rfl ?_
          first
            | (have hlen : (ev_sb i).length = q.2.2.1 - q.2.1 := (nI_ij (by omega) (by omega) c_40).symm
               have inn : ∀ (k2 r : Nat), r + k2 = (ev_sb i).length → (∀ k, k < r → (ev_sb i).getD k 0 = b (q.2.1 + k)) → Ev E mX7_nameHere 51 [some (.ref 70), some (.int (nI i)), some (.int 1), some (.int (nI r))] [] n w (0, 0) (ev_is (some (.int (nmA b q))) n w) := by
                 intro k2
                 induction k2 with
                 | zero =>
                   intro r hr hall
                   obtain rfl : (ev_sb i).length = r := by omega
                   refine st_iload_n (q := 52) dX7_nameHere_51 rfl rfl rfl ?_
                   refine st_if_eq (q := 55) (tgt := 106) dX7_nameHere_52 rfl rfl (fun c_52 => False.elim (absurd c_52 (by decide))) (fun c_52 => ?_)
                   refine st_iload_n (q := 56) dX7_nameHere_55 rfl rfl rfl ?_
                   refine st_aload_n (q := 57) dX7_nameHere_56 rfl rfl rfl ?_
                   refine m_get (q := 60) dX7_nameHere_57 rfl fl_X7_66.g hM (by decide) rfl ?_
                   refine st_aload_n (q := 61) dX7_nameHere_60 rfl rfl rfl ?_
                   refine m_get (q := 64) dX7_nameHere_61 rfl fl_X7_57.g hM (by decide) rfl ?_
                   rw [h14, h15]
                   refine st_isub (q := 65) dX7_nameHere_64 rfl ?_
                   rw [nI_sb (by omega)]
                   refine st_icmp_ge (q := 68) (tgt := 106) dX7_nameHere_65 rfl rfl (fun c_65 => ?_) (fun c_65 => False.elim (c_65 (by rw [← hlen]; exact Int32.le_refl _)))
                   refine st_iload_n (q := 107) dX7_nameHere_106 rfl rfl rfl ?_
                   refine st_if_eq (q := 110) (tgt := 112) dX7_nameHere_107 rfl rfl (fun c_107 => False.elim (absurd c_107 (by decide))) (fun c_107 => ?_)
                   refine st_iload_n (q := 111) dX7_nameHere_110 rfl rfl rfl ?_
                   refine st_ireturn dX7_nameHere_111 rfl ?_
                   have hsp : splF b q.2.1 q.2.2.1 i = true := by
                     unfold splF
                     rw [decide_eq_true hlen, Bool.true_and]
                     exact List.all_eq_true.mpr (fun k hk => decide_eq_true (hall k (List.mem_range.mp hk)))
                   have hXi : i = X9 := by rw [← hX, wdF, if_pos hsp]
                   exact ⟨by rw [nmA, if_pos hq1, ← hX9, ← hXi, if_pos (by omega)], rfl, rfl⟩
                 | succ k2 ih2 =>
                   intro r hr hall
                   refine st_iload_n (q := 52) dX7_nameHere_51 rfl rfl rfl ?_
                   refine st_if_eq (q := 55) (tgt := 106) dX7_nameHere_52 rfl rfl (fun c_52 => False.elim (absurd c_52 (by decide))) (fun c_52 => ?_)
                   refine st_iload_n (q := 56) dX7_nameHere_55 rfl rfl rfl ?_
                   refine st_aload_n (q := 57) dX7_nameHere_56 rfl rfl rfl ?_
                   refine m_get (q := 60) dX7_nameHere_57 rfl fl_X7_66.g hM (by decide) rfl ?_
                   refine st_aload_n (q := 61) dX7_nameHere_60 rfl rfl rfl ?_
                   refine m_get (q := 64) dX7_nameHere_61 rfl fl_X7_57.g hM (by decide) rfl ?_
                   rw [h14, h15]
                   refine st_isub (q := 65) dX7_nameHere_64 rfl ?_
                   rw [nI_sb (by omega)]
                   refine st_icmp_ge (q := 68) (tgt := 106) dX7_nameHere_65 rfl rfl (fun c_65 => False.elim (absurd c_65 (by rw [← hlen]; exact nI_ge (a := r) (by omega) (by omega)))) (fun c_65 => ?_)
                   refine st_aload_n (q := 69) dX7_nameHere_68 rfl rfl rfl ?_
                   refine st_aload_n (q := 70) dX7_nameHere_69 rfl rfl rfl ?_
                   refine m_get (q := 73) dX7_nameHere_70 rfl fl_X7_57.g hM (by decide) rfl ?_
                   refine st_iload_n (q := 74) dX7_nameHere_73 rfl rfl rfl ?_
                   rw [h15]
                   refine st_iadd (q := 75) dX7_nameHere_74 rfl ?_
                   rw [nI_add]
                   refine sp_V1 (q := 78) (M' := mX7_byteAt) dX7_nameHere_75 rfl ok_X7_byteAt mk_X7_byteAt ml_X7_69 ⟨Nat.le_of_ble_eq_true rfl, Nat.le_of_ble_eq_true rfl⟩ rfl (Nat.le_of_ble_eq_true rfl) (g_rv hM rfl) ⟨rfl, rfl⟩ (c_X7_byteAt Fr.rf hM hK (k := q.2.1 + r) (by omega)) ?_
                   refine st_aload_n (q := 79) dX7_nameHere_78 rfl rfl rfl ?_
                   refine g_getA (q := 82) dX7_nameHere_79 rfl fl_X7_22.g hM rfl ?_
                   refine st_aload_n (q := 83) dX7_nameHere_82 rfl rfl rfl ?_
                   refine g_getA (q := 86) dX7_nameHere_83 rfl fl_X7_19.g hM rfl ?_
                   refine st_iload_n (q := 87) dX7_nameHere_86 rfl rfl rfl ?_
                   refine m_ald (q := 88) dX7_nameHere_87 rfl hM (i := 18) (by decide) rfl (by exact ev_ix_nI (j := i) (by omega) (by decide)) ?_
                   rw [hE.1 i (by omega)]
                   refine st_iload_n (q := 89) dX7_nameHere_88 rfl rfl rfl ?_
                   refine st_iadd (q := 90) dX7_nameHere_89 rfl ?_
                   refine m_ald (q := 91) dX7_nameHere_90 rfl hM (i := 19) (by decide) rfl (by exact ix2 (a := enL.getD i 0) (b := r) (by omega) (by decide)) ?_
                   rw [hE.2 _ (by omega), lt_t i (by omega) r (by omega), btA, if_pos (by omega)]
                   refine st_icmp_ne (q := 94) (tgt := 98) dX7_nameHere_91 rfl rfl (fun c_91 => ?_) (fun c_91 => ?_)
                   · refine st_iconst (q := 99) dX7_nameHere_98 rfl ic_0 ?_
                     refine st_istore_n (q := 100) (L' := [_, _, _, _]) dX7_nameHere_99 rfl rfl (Nat.le_of_ble_eq_true rfl) rfl ?_
                     refine st_iinc (q := 103) (L' := [_, _, _, _]) dX7_nameHere_100 rfl rfl (nI_succ _).symm (Nat.le_of_ble_eq_true rfl) rfl ?_
                     refine st_goto (q := 51) dX7_nameHere_103 rfl ?_
                     first
                       | (refine ih2 (r + 1) (by omega) (fun k hk => ?_)
                          by_cases e : k = r
                          · subst e; exact c_91.symm
                          · exact hall k (by omega))
                       | (refine bad ?_ _
                          unfold splF
                          rw [decide_eq_true hlen, Bool.true_and]
                          refine List.all_eq_false.mpr ⟨r, List.mem_range.mpr (by omega), ?_⟩
                          rw [decide_eq_true_eq]
                          exact fun z => c_91 z.symm)
                   · refine st_iconst (q := 95) dX7_nameHere_94 rfl ic_1 ?_
                     refine st_goto (q := 99) dX7_nameHere_95 rfl ?_
                     refine st_istore_n (q := 100) (L' := [_, _, _, _]) dX7_nameHere_99 rfl rfl (Nat.le_of_ble_eq_true rfl) rfl ?_
                     refine st_iinc (q := 103) (L' := [_, _, _, _]) dX7_nameHere_100 rfl rfl (nI_succ _).symm (Nat.le_of_ble_eq_true rfl) rfl ?_
                     refine st_goto (q := 51) dX7_nameHere_103 rfl ?_
                     first
                       | (refine ih2 (r + 1) (by omega) (fun k hk => ?_)
                          by_cases e : k = r
                          · subst e; exact c_91.symm
                          · exact hall k (by omega))
                       | (refine bad ?_ _
                          unfold splF
                          rw [decide_eq_true hlen, Bool.true_and]
                          refine List.all_eq_false.mpr ⟨r, List.mem_range.mpr (by omega), ?_⟩
                          rw [decide_eq_true_eq]
                          exact fun z => c_91 z.symm)
               exact inn (ev_sb i).length 0 (by omega) (fun k hk => absurd hk (Nat.not_lt_zero k)))
            | (refine bad ?_ _
               unfold splF
               rw [decide_eq_false (fun z => c_40 (by rw [z]))]
               rfl)
  refine st_iconst (q := 1) dX7_nameHere_0 rfl ic_0 ?_
  refine st_istore_n (q := 2) (L' := [_, _, _, _]) dX7_nameHere_1 rfl rfl (Nat.le_of_ble_eq_true rfl) rfl ?_
  exact lp 8 0 (by omega) hX9.symm _ _
def nxX (b : Nat → Int32) (tl : Nat) : TX → TX
  | .inl e => .inl e
  | .inr q => tokF b tl q.2.2.1
def numX (b : Nat → Int32) (tl : Nat) (lo hi : Int32) : TX → TX
  | .inl e => .inl e
  | .inr q => if q.1 = 2 then (if inI q.2.2.2 lo hi = true then tokF b tl q.2.2.1 else .inl (3, q.2.1)) else .inl (2, q.2.1)
def numV (lo hi : Int32) : TX → Int32
  | .inl _ => lo
  | .inr q => if q.1 = 2 then (if inI q.2.2.2 lo hi = true then q.2.2.2 else lo) else lo
theorem e_ne {S : gT} {tl : Nat} {e : Nat × Nat} (h : PT S tl (.inl e)) : ¬ S 12 0 = 0 := fun z => by
  have h1 := h.1
  rw [z] at h1
  exact h.2.2.1 (nI_z (by have := h.2.2.2; omega) h1.symm)
theorem e_nle {S : gT} {tl : Nat} {e : Nat × Nat} (h : PT S tl (.inl e)) : ¬ S 12 0 ≤ 0 := fun z => by
  rw [h.1] at z
  have := (nI_leiff (a := e.1) (b := 0) (by have := h.2.2.2; omega) (by decide)).mp z
  exact h.2.2.1 (by omega)
theorem PT.up {S : gT} {tl i j : Nat} {v : Int32} {x : TX} (h : PT S tl x) (hi : i < 12 ∨ 17 < i) : PT (tup S i j v) tl x := by
  cases x with
  | inl e => exact ⟨by rw [tup_n (by omega)]; exact h.1, by rw [tup_n (by omega)]; exact h.2.1, h.2.2⟩
  | inr q => exact ⟨by rw [tup_n (by omega)]; exact h.1, by rw [tup_n (by omega)]; exact h.2.1, by rw [tup_n (by omega)]; exact h.2.2.1, by rw [tup_n (by omega)]; exact h.2.2.2.1, fun z => by rw [tup_n (by omega)]; exact h.2.2.2.2.1 z, h.2.2.2.2.2⟩
theorem KX.up {S : gT} {b : Nat → Int32} {tl i j : Nat} {v : Int32} (h : KX S b tl) (hi : i ≠ 9 ∧ i ≠ 10) : KX (tup S i j v) b tl := ⟨by rw [tup_n (Ne.symm hi.1)]; exact h.1, by rw [tup_n (Ne.symm hi.2)]; exact h.2.1, h.2.2⟩
set_option maxRecDepth 100000 in
set_option maxHeartbeats 4000000 in
theorem c_X7_stepB {E : ev_E} {n : Nat} {w : ev_W} {S : gT} {f : Nat → Int32} {w0 : ev_W} (hF : Fr 70 82 w0 w) (hM : MR S f 70 n w) {tl : Nat} {e : Nat × Nat} (hT : PT S tl (.inl e)) : Ct E mX7_step [.ref 70] n w (ev_is none n w) := by
  refine Ct.of 1 (by decide) (Nat.le_of_ble_eq_true rfl) rfl ?_
  refine st_aload_n (q := 1) dX7_step_0 rfl rfl rfl ?_
  refine m_get (q := 4) dX7_step_1 rfl fl_X7_54.g hM (by decide) rfl ?_
  refine st_if_le (q := 7) (tgt := 8) dX7_step_4 rfl rfl (fun c_4 => False.elim (e_nle hT c_4)) (fun c_4 => ?_)
  refine st_return dX7_step_7 rfl ?_
  exact ⟨rfl, rfl, rfl⟩
theorem c_X7_stepX {E : ev_E} {n : Nat} {w : ev_W} {S : gT} {f : Nat → Int32} {w0 : ev_W} (hF : Fr 70 82 w0 w) (hM : MR S f 70 n w) {b : Nat → Int32} {tl : Nat} (hK : KX S b tl) {x : TX} (hT : PT S tl x) : Ct E mX7_step [.ref 70] n w (fun a u v => ∃ S', a = none ∧ u = n ∧ MR S' f 70 n v ∧ PT S' tl (nxX b tl x) ∧ FX S S' ∧ Fr 70 82 w0 v) := by
  cases x with
  | inl e => exact (c_X7_stepB hF hM hT).mono (fun a u v h9 => by obtain ⟨ha, hu, hv⟩ := h9; subst hv; exact ⟨S, ha, hu, hM, hT, FX.rf, hF⟩)
  | inr q => exact c_X7_step hF hM hK hT.1 hT.2.1 hT.2.2.2.2.2.2.1
