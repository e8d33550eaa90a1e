def mrdS (S : gT) (r : Int32 × Option (Int32 × gT)) : gT := match r.2 with
  | none => S
  | some e => tup S 28 0 e.1
def RD9 (S : gT) (f : Nat → Int32) (T : gT) (r : Int32 × Option (Int32 × gT)) (nh nt dd : Nat) (n : Nat) (u : ev_W) : Prop := ∃ f', MR (mrdS S r) f' 70 n u ∧ RQ (rdT T r) f' 0 nh nt dd ∧ ∀ j, 71 ≤ j → j < 213 → f' j = f j
theorem inL_eq {x : Int32} {i s : Nat} (hi : i < 100) (hs : s ≤ 40) : inL (x.toInt64 + (nI i).toInt64) 0 (nI s - 1).toInt64 = inI (x + nI i) 0 (nI s - 1) := by
  unfold inL inI
  have h1 := x.toInt_lt
  have h2 := x.le_toInt
  have ei : (nI i).toInt = i := nI_toInt (by omega)
  have es : (nI s).toInt = s := nI_toInt (by omega)
  have e1 : (1 : Int32).toInt = 1 := by decide
  have e0 : (0 : Int32).toInt = 0 := by decide
  have e00 : (0 : Int64).toInt = 0 := by decide
  have el : (x.toInt64 + (nI i).toInt64).toInt = x.toInt + i := by
    rw [Int64.toInt_add, Int32.toInt_toInt64, Int32.toInt_toInt64, ei]
    exact Int.bmod_eq_of_le (by omega) (by omega)
  have em : (nI s - 1).toInt = s - 1 := by rw [ti_sub (by omega) (by omega), es, e1]
  have eh : (nI s - 1).toInt64.toInt = s - 1 := by rw [Int32.toInt_toInt64, em]
  have hx : ((0 : Int64) ≤ x.toInt64 + (nI i).toInt64 ∧ x.toInt64 + (nI i).toInt64 ≤ (nI s - 1).toInt64) ↔ ((0 : Int32) ≤ x + nI i ∧ x + nI i ≤ nI s - 1) := by
    rw [Int64.le_iff_toInt_le, Int64.le_iff_toInt_le, Int32.le_iff_toInt_le, Int32.le_iff_toInt_le, el, eh, em, e0, e00]
    by_cases z : x.toInt + i < 2147483648
    · rw [ti_add (by omega) (by omega), ei]
    · have ew : (x + nI i).toInt = x.toInt + i - 4294967296 := by
        rw [Int32.toInt_add, ei]
        have e9 : (x.toInt + (i : Int)).bmod (2 ^ 32) = (x.toInt + i - 4294967296).bmod (2 ^ 32) := by
          rw [show x.toInt + (i : Int) - 4294967296 = x.toInt + i + (-1) * ((2 ^ 32 : Nat) : Int) from by omega, Int.add_mul_bmod_self_right]
        rw [e9]
        exact Int.bmod_eq_of_le (by omega) (by omega)
      rw [ew]
      omega
  rw [← Bool.decide_and, ← Bool.decide_and]
  exact decide_eq_decide.mpr hx
set_option maxRecDepth 100000 in
set_option maxHeartbeats 4000000 in
theorem c_X7_read {E : ev_E} {n : Nat} {w : ev_W} {S : gT} {f : Nat → Int32} {w0 : ev_W} (hF : Fr 70 82 w0 w) (hM : MR S f 70 n w) {T : gT} {nh nt dd : Nat} (hG : GQ S f T nh nt dd) {Sh : Nat → gT} (hS : SH Sh S) {x y ff z : Int32} : Ct E mX7_read [.ref 70, .int x, .int y, .int ff, .int z] n w (ev_mr ((readR Sh T nt x y ff z).1) n w0 (RD9 S f T (readR Sh T nt x y ff z) nh nt dd n)) := by
  refine Ct.of 3 (by decide) (Nat.le_of_ble_eq_true rfl) rfl ?_
  refine st_iload_n (q := 1) dX7_read_0 rfl rfl rfl ?_
  refine st_i2l (q := 2) dX7_read_1 rfl ?_
  refine st_lconst (q := 3) dX7_read_2 rfl lc_0 ?_
  refine st_ldc2 (q := 6) dX7_read_3 rfl cn_X7_179 ?_
  refine sp_S3 (q := 9) (M' := mX7_in) dX7_read_6 rfl ok_X7_in mk_X7_in ml_X7_46 ⟨Nat.le_of_ble_eq_true rfl, Nat.le_of_ble_eq_true rfl⟩ rfl (Nat.le_of_ble_eq_true rfl) ⟨rfl, rfl⟩ (c_X7_inI (a := 0) (c := 3) (by decide) (by decide)) ?_
  refine st_if_eq (q := 12) (tgt := 37) dX7_read_9 rfl rfl (fun c_9 => ?_) (fun c_9 => ?_)
  · refine st_iconst (q := 38) dX7_read_37 rfl ic_m1 ?_
    refine st_ireturn dX7_read_38 rfl ?_
    first
      | (have hb : readR Sh T nt x y ff z = (-1, none) := by rw [readR, if_neg (by rw [zI_0.mp c_9]; decide)]
         exact ⟨by rw [hb], rfl, by rw [hb]; exact ⟨f, hM, hG.1, fun _ _ _ => rfl⟩, hF⟩)
      | (have hb : readR Sh T nt x y ff z = (-1, none) := by rw [readR, if_pos (zI_1.mp c_9), if_neg (by rw [zI_0.mp c_21]; decide)]
         exact ⟨by rw [hb], rfl, by rw [hb]; exact ⟨f, hM, hG.1, fun _ _ _ => rfl⟩, hF⟩)
      | (have hb : readR Sh T nt x y ff z = (-1, none) := by rw [readR, if_pos (zI_1.mp c_9), if_pos (zI_1.mp c_21), if_neg (by rw [zI_0.mp c_34]; decide)]
         exact ⟨by rw [hb], rfl, by rw [hb]; exact ⟨f, hM, hG.1, fun _ _ _ => rfl⟩, hF⟩)
  · refine st_iload_n (q := 13) dX7_read_12 rfl rfl rfl ?_
    refine st_i2l (q := 14) dX7_read_13 rfl ?_
    refine st_lconst (q := 15) dX7_read_14 rfl lc_0 ?_
    refine st_ldc2 (q := 18) dX7_read_15 rfl cn_X7_211 ?_
    refine sp_S3 (q := 21) (M' := mX7_in) dX7_read_18 rfl ok_X7_in mk_X7_in ml_X7_46 ⟨Nat.le_of_ble_eq_true rfl, Nat.le_of_ble_eq_true rfl⟩ rfl (Nat.le_of_ble_eq_true rfl) ⟨rfl, rfl⟩ (c_X7_inI (a := 0) (c := 2) (by decide) (by decide)) ?_
    refine st_if_eq (q := 24) (tgt := 37) dX7_read_21 rfl rfl (fun c_21 => ?_) (fun c_21 => ?_)
    · refine st_iconst (q := 38) dX7_read_37 rfl ic_m1 ?_
      refine st_ireturn dX7_read_38 rfl ?_
      first
        | (have hb : readR Sh T nt x y ff z = (-1, none) := by rw [readR, if_neg (by rw [zI_0.mp c_9]; decide)]
           exact ⟨by rw [hb], rfl, by rw [hb]; exact ⟨f, hM, hG.1, fun _ _ _ => rfl⟩, hF⟩)
        | (have hb : readR Sh T nt x y ff z = (-1, none) := by rw [readR, if_pos (zI_1.mp c_9), if_neg (by rw [zI_0.mp c_21]; decide)]
           exact ⟨by rw [hb], rfl, by rw [hb]; exact ⟨f, hM, hG.1, fun _ _ _ => rfl⟩, hF⟩)
        | (have hb : readR Sh T nt x y ff z = (-1, none) := by rw [readR, if_pos (zI_1.mp c_9), if_pos (zI_1.mp c_21), if_neg (by rw [zI_0.mp c_34]; decide)]
           exact ⟨by rw [hb], rfl, by rw [hb]; exact ⟨f, hM, hG.1, fun _ _ _ => rfl⟩, hF⟩)
    · refine st_iload (q := 26) dX7_read_24 rfl rfl ?_
      refine st_i2l (q := 27) dX7_read_26 rfl ?_
      refine st_lconst (q := 28) dX7_read_27 rfl lc_0 ?_
      refine st_ldc2 (q := 31) dX7_read_28 rfl cn_X7_239 ?_
      refine sp_S3 (q := 34) (M' := mX7_in) dX7_read_31 rfl ok_X7_in mk_X7_in ml_X7_46 ⟨Nat.le_of_ble_eq_true rfl, Nat.le_of_ble_eq_true rfl⟩ rfl (Nat.le_of_ble_eq_true rfl) ⟨rfl, rfl⟩ (c_X7_inI (a := 0) (c := 40) (by decide) (by decide)) ?_
      refine st_if_ne (q := 37) (tgt := 39) dX7_read_34 rfl rfl (fun c_34 => ?_) (fun c_34 => ?_)
      · obtain ⟨j, hj, rfl⟩ := inI_k (k := 3) (zI_1.mp c_9) (by decide)
        have h1 : inI (nI j) 0 3 = true := zI_1.mp c_9
        have hjc : (nI j).toNatClampNeg = j := nI_clamp (by omega)
        have h2 : inI y 0 2 = true := zI_1.mp c_21
        obtain ⟨m, hm, rfl⟩ := inI_k (k := 40) (zI_1.mp c_34) (by decide)
        have h40 : inI (nI m) 0 40 = true := zI_1.mp c_34
        have hmc : (nI m).toNatClampNeg = m := nI_clamp (by omega)
        obtain ⟨s, hs40, e3, hsh⟩ := hS j (by omega)
        obtain ⟨R9, hr0⟩ : ∃ R9, R9 = rdF (Sh j) nt y ff m 0 T := ⟨_, rfl⟩
        have hr9 : readR Sh T nt (nI j) y ff (nI m) = R9 := by rw [readR, if_pos h1, if_pos h2, if_pos h40, hjc, hmc, hr0]
        have hG2 := hG.2.2.1
        refine st_aload_n (q := 40) dX7_read_39 rfl rfl rfl ?_
        refine st_iconst (q := 41) dX7_read_40 rfl ic_0 ?_
        refine st_sipush (q := 44) dX7_read_41 rfl sp_213 ?_
        refine sm_V2 (q := 47) (M' := mX7_copies) dX7_read_44 rfl ok_X7_copies mk_X7_copies ml_X7_200 ⟨Nat.le_of_ble_eq_true rfl, Nat.le_of_ble_eq_true rfl⟩ rfl (Nat.le_of_ble_eq_true rfl) (g_rv hM rfl) ⟨rfl, rfl⟩ (c_X7_copies hM (p := 0) (c := 213) (by decide) (by decide)) ?_
        intro _ n w h9 _
        obtain ⟨rfl, rfl, hM, hF_⟩ := h9
        replace hF := Fr.tr hF hF_
        refine st_iconst (q := 48) dX7_read_47 rfl ic_0 ?_
        refine st_istore (q := 50) (L' := [_, _, _, _, _, _, _, _]) dX7_read_48 rfl (Nat.le_of_ble_eq_true rfl) rfl ?_
        refine st_iconst (q := 51) dX7_read_50 rfl ic_0 ?_
        refine st_istore (q := 53) (L' := [_, _, _, _, _, _, _, _]) dX7_read_51 rfl (Nat.le_of_ble_eq_true rfl) rfl ?_
        refine st_iconst (q := 54) dX7_read_53 rfl ic_0 ?_
        refine st_istore (q := 56) (L' := [_, _, _, _, _, _, _, _]) dX7_read_54 rfl (Nat.le_of_ble_eq_true rfl) rfl ?_
        have lp : ∀ (k i : Nat), i + k = m → ∀ (w1 : ev_W) (f1 : Nat → Int32) (U : gT), MR S f1 70 n w1 → Fr 70 82 w0 w1 → RQ U f1 0 nh nt dd → RQ T f1 213 nh nt dd → (∀ q, 71 ≤ q → q < 213 → f1 q = f q) → rdF (Sh j) nt y ff k i U = R9 → Ev E mX7_read 56 [some (.ref 70), some (.int (nI j)), some (.int y), some (.int ff), some (.int (nI m)), some (.int 0), some (.int (nI i)), some (.int (nI i))] [] n w1 (0, 0) (ev_mr ((readR Sh T nt (nI j) y ff (nI m)).1) n w0 (RD9 S f T (readR Sh T nt (nI j) y ff (nI m)) nh nt dd n)) := by
          clear hM hF
          intro k
          induction k with
          | zero =>
            intro i hi w f1 U hM hF hR hT ho hE
            obtain rfl : m = i := by omega
            refine st_iload (q := 58) dX7_read_56 rfl rfl ?_
            refine st_iload (q := 60) dX7_read_58 rfl rfl ?_
            refine st_icmp_ge (q := 63) (tgt := 176) dX7_read_60 rfl rfl (fun c_60 => ?_) (fun c_60 => False.elim (c_60 (Int32.le_refl _)))
            refine st_aload_n (q := 177) dX7_read_176 rfl rfl rfl ?_
            refine st_iload (q := 179) dX7_read_177 rfl rfl ?_
            refine m_put (q := 182) dX7_read_179 rfl fl_X7_241 hM (by decide) rfl rfl rfl (fun w hM hF_ => ?_)
            replace hF := Fr.tr hF hF_
            refine st_iload (q := 184) dX7_read_182 rfl rfl ?_
            refine st_ireturn dX7_read_184 rfl ?_
            exact ⟨by rw [hr9, ← hE]; rfl, rfl, by rw [hr9, ← hE]; exact ⟨_, hM, hR, ho⟩, hF⟩
          | succ k ih =>
            intro i hi w f1 U hM hF hR hT ho hE
            have ex : ∀ (b9 : Int32) (i9 : Nat), ¬ b9 = 0 → R9 = (nI i, some (b9, U)) → Ev E mX7_read 56 [some (.ref 70), some (.int (nI j)), some (.int y), some (.int ff), some (.int (nI m)), some (.int b9), some (.int (nI i)), some (.int (nI i9))] [] n w (0, 0) (ev_mr ((readR Sh T nt (nI j) y ff (nI m)).1) n w0 (RD9 S f T (readR Sh T nt (nI j) y ff (nI m)) nh nt dd n)) := by
              intro b9 i9 hb9 hE9
              refine st_iload (q := 58) dX7_read_56 rfl rfl ?_
              refine st_iload (q := 60) dX7_read_58 rfl rfl ?_
              refine st_icmp_ge (q := 63) (tgt := 176) dX7_read_60 rfl rfl (fun c_60 => ?_) (fun c_60 => ?_)
              · refine st_aload_n (q := 177) dX7_read_176 rfl rfl rfl ?_
                refine st_iload (q := 179) dX7_read_177 rfl rfl ?_
                refine m_put (q := 182) dX7_read_179 rfl fl_X7_241 hM (by decide) rfl rfl rfl (fun w hM hF_ => ?_)
                replace hF := Fr.tr hF hF_
                refine st_iload (q := 184) dX7_read_182 rfl rfl ?_
                refine st_ireturn dX7_read_184 rfl ?_
                exact ⟨by rw [hr9, hE9], rfl, by rw [hr9, hE9]; exact ⟨_, hM, hR, ho⟩, hF⟩
              · refine st_iload (q := 65) dX7_read_63 rfl rfl ?_
                refine st_if_ne (q := 68) (tgt := 176) dX7_read_65 rfl rfl (fun c_65 => ?_) (fun c_65 => False.elim (hb9 c_65))
                refine st_aload_n (q := 177) dX7_read_176 rfl rfl rfl ?_
                refine st_iload (q := 179) dX7_read_177 rfl rfl ?_
                refine m_put (q := 182) dX7_read_179 rfl fl_X7_241 hM (by decide) rfl rfl rfl (fun w hM hF_ => ?_)
                replace hF := Fr.tr hF hF_
                refine st_iload (q := 184) dX7_read_182 rfl rfl ?_
                refine st_ireturn dX7_read_184 rfl ?_
                exact ⟨by rw [hr9, hE9], rfl, by rw [hr9, hE9]; exact ⟨_, hM, hR, ho⟩, hF⟩
            refine st_iload (q := 58) dX7_read_56 rfl rfl ?_
            refine st_iload (q := 60) dX7_read_58 rfl rfl ?_
            refine st_icmp_ge (q := 63) (tgt := 176) dX7_read_60 rfl rfl (fun c_60 => False.elim (absurd c_60 (nI_ge (a := i) (b := m) (by omega) (by omega)))) (fun c_60 => ?_)
            refine st_iload (q := 65) dX7_read_63 rfl rfl ?_
            refine st_if_ne (q := 68) (tgt := 176) dX7_read_65 rfl rfl (fun c_65 => False.elim (c_65 rfl)) (fun c_65 => ?_)
            refine st_aload_n (q := 69) dX7_read_68 rfl rfl rfl ?_
            refine g_getA (q := 72) dX7_read_69 rfl fl_X7_35.g hM rfl ?_
            refine st_iload_n (q := 73) dX7_read_72 rfl rfl rfl ?_
            refine m_ald (q := 74) dX7_read_73 rfl hM (i := 25) (by decide) rfl (by exact ev_ix_nI (j := j) (by omega) (by decide)) ?_
            refine st_bipush (q := 76) dX7_read_74 rfl bp_m4 ?_
            refine st_icmp_ne (q := 79) (tgt := 83) dX7_read_76 rfl rfl (fun c_76 => ?_) (fun c_76 => ?_)
            · obtain ⟨em, _, e2, e26, ecl⟩ := hsh.resolve_left (fun z9 => c_76 z9.2)
              refine st_aload_n (q := 84) dX7_read_83 rfl rfl rfl ?_
              refine g_getA (q := 87) dX7_read_84 rfl fl_X7_35.g hM rfl ?_
              refine st_iload_n (q := 88) dX7_read_87 rfl rfl rfl ?_
              refine m_ald (q := 89) dX7_read_88 rfl hM (i := 25) (by decide) rfl (by exact ev_ix_nI (j := j) (by omega) (by decide)) ?_
              refine st_iload_n (q := 90) dX7_read_89 rfl rfl rfl ?_
              refine st_icmp_eq (q := 93) (tgt := 97) dX7_read_90 rfl rfl (fun c_90 => ?_) (fun c_90 => ?_)
              · have ey : y = Sh j 2 0 := by rw [e2]; exact c_90.symm
                refine st_iload_n (q := 98) dX7_read_97 rfl rfl rfl ?_
                refine st_i2l (q := 99) dX7_read_98 rfl ?_
                refine st_iload (q := 101) dX7_read_99 rfl rfl ?_
                refine st_i2l (q := 102) dX7_read_101 rfl ?_
                refine st_ladd (q := 103) dX7_read_102 rfl ?_
                refine st_lconst (q := 104) dX7_read_103 rfl lc_0 ?_
                refine st_aload_n (q := 105) dX7_read_104 rfl rfl rfl ?_
                refine g_getA (q := 108) dX7_read_105 rfl fl_X7_38.g hM rfl ?_
                refine st_iload_n (q := 109) dX7_read_108 rfl rfl rfl ?_
                refine m_ald (q := 110) dX7_read_109 rfl hM (i := 26) (by decide) rfl (by exact ev_ix_nI (j := j) (by omega) (by decide)) ?_
                rw [e26]
                refine st_iconst (q := 111) dX7_read_110 rfl ic_1 ?_
                refine st_isub (q := 112) dX7_read_111 rfl ?_
                refine st_i2l (q := 113) dX7_read_112 rfl ?_
                refine sp_S3 (q := 116) (M' := mX7_in) dX7_read_113 rfl ok_X7_in mk_X7_in ml_X7_46 ⟨Nat.le_of_ble_eq_true rfl, Nat.le_of_ble_eq_true rfl⟩ rfl (Nat.le_of_ble_eq_true rfl) ⟨rfl, rfl⟩ (c_X7_in) ?_
                refine st_if_ne (q := 119) (tgt := 123) dX7_read_116 rfl rfl (fun c_116 => ?_) (fun c_116 => ?_)
                · have hin : inI (ff + nI i) 0 (nI s - 1) = true := by rw [← inL_eq (by omega) hs40]; exact zI_1.mp c_116
                  obtain ⟨r, hr5, er⟩ := inI_ix hin (by omega)
                  have hrc : (ff + nI i).toNatClampNeg = r := by rw [er, nI_clamp (by omega)]
                  have hf0 : faI (Sh j) y (ff + nI i) = 0 := by rw [faI, if_neg (by rw [em]; decide), if_pos ey, e3, if_pos hin]
                  refine st_iconst (q := 124) dX7_read_123 rfl ic_0 ?_
                  refine st_istore (q := 126) (L' := [_, _, _, _, _, _, _, _]) dX7_read_124 rfl (Nat.le_of_ble_eq_true rfl) rfl ?_
                  refine st_iload (q := 128) dX7_read_126 rfl rfl ?_
                  refine st_if_ne (q := 131) (tgt := 170) dX7_read_128 rfl rfl (fun c_128 => ?_) (fun c_128 => ?_)
                  · refine st_iinc (q := 173) (L' := [_, _, _, _, _, _, _, _]) dX7_read_170 rfl rfl (nI_succ _).symm (Nat.le_of_ble_eq_true rfl) rfl ?_
                    refine st_goto (q := 56) dX7_read_173 rfl ?_
                    first
                      | exact absurd rfl c_128
                      | exact absurd c_128 (by decide)
                      | exact ex _ _ (by decide) (by rw [← hE, rdF, hf1]; rfl)
                      | exact ex _ _ (by decide) (by rw [← hE, rdF, hf2]; rfl)
                      | exact ex _ _ (by decide) (by rw [← hE, rdF, hf3]; rfl)
                      | exact ih (i + 1) (by omega) w f2 _ hM hF hR2 (hT.move (fun q hq => ho2 _ (by omega))) (fun q h71 h213 => by rw [ho2 q (by omega)]; exact ho q h71 h213) (by rw [← hE, rdF, if_pos hf0, hrc, if_neg (Int32.not_lt.mpr c_150)])
                  · refine st_aload_n (q := 132) dX7_read_131 rfl rfl rfl ?_
                    refine st_iconst (q := 133) dX7_read_132 rfl ic_0 ?_
                    refine st_aload_n (q := 134) dX7_read_133 rfl rfl rfl ?_
                    refine g_getA (q := 137) dX7_read_134 rfl fl_X7_41.g hM rfl ?_
                    refine st_bipush (q := 139) dX7_read_137 rfl bp_40 ?_
                    refine st_iload_n (q := 140) dX7_read_139 rfl rfl rfl ?_
                    refine st_imul (q := 141) dX7_read_140 rfl ?_
                    refine st_iload_n (q := 142) dX7_read_141 rfl rfl rfl ?_
                    refine st_iadd (q := 143) dX7_read_142 rfl ?_
                    refine st_iload (q := 145) dX7_read_143 rfl rfl ?_
                    refine st_iadd (q := 146) dX7_read_145 rfl ?_
                    refine m_ald (q := 147) dX7_read_146 rfl hM (i := 27) (by decide) rfl (by first | (rw [Int32.add_assoc, er]; exact ixm (a := 40) (m := j) (c := r) (by omega) (by decide)) | exact (show ev_ix _ 160 0 from absurd c_128 (by decide))) ?_
                    try rw [ecl r (by omega)]
                    refine sm_V2 (q := 150) (M' := mX7_stowsOn) dX7_read_147 rfl ok_X7_stowsOn mk_X7_stowsOn ml_X7_189 ⟨Nat.le_of_ble_eq_true rfl, Nat.le_of_ble_eq_true rfl⟩ rfl (Nat.le_of_ble_eq_true rfl) (g_rv hM rfl) ⟨rfl, rfl⟩ (c_X7_stowsOn Fr.rf hM (p := 0) (by decide) hR hG2) ?_
                    intro _ n w h9 _
                    obtain ⟨f2, rfl, rfl, hM, hR2, ho2, hF_⟩ := h9
                    replace hF := Fr.tr hF hF_
                    refine st_if_ge (q := 153) (tgt := 167) dX7_read_150 rfl rfl (fun c_150 => ?_) (fun c_150 => ?_)
                    · refine st_iinc (q := 170) (L' := [_, _, _, _, _, _, _, _]) dX7_read_167 rfl rfl (nI_succ _).symm (Nat.le_of_ble_eq_true rfl) rfl ?_
                      refine st_iinc (q := 173) (L' := [_, _, _, _, _, _, _, _]) dX7_read_170 rfl rfl (nI_succ _).symm (Nat.le_of_ble_eq_true rfl) rfl ?_
                      refine st_goto (q := 56) dX7_read_173 rfl ?_
                      first
                        | exact absurd rfl c_128
                        | exact absurd c_128 (by decide)
                        | exact ex _ _ (by decide) (by rw [← hE, rdF, hf1]; rfl)
                        | exact ex _ _ (by decide) (by rw [← hE, rdF, hf2]; rfl)
                        | exact ex _ _ (by decide) (by rw [← hE, rdF, hf3]; rfl)
                        | exact ih (i + 1) (by omega) w f2 _ hM hF hR2 (hT.move (fun q hq => ho2 _ (by omega))) (fun q h71 h213 => by rw [ho2 q (by omega)]; exact ho q h71 h213) (by rw [← hE, rdF, if_pos hf0, hrc, if_neg (Int32.not_lt.mpr c_150)])
                    · refine st_aload_n (q := 154) dX7_read_153 rfl rfl rfl ?_
                      refine st_sipush (q := 157) dX7_read_154 rfl sp_213 ?_
                      refine st_iconst (q := 158) dX7_read_157 rfl ic_0 ?_
                      refine sm_V2 (q := 161) (M' := mX7_copies) dX7_read_158 rfl ok_X7_copies mk_X7_copies ml_X7_200 ⟨Nat.le_of_ble_eq_true rfl, Nat.le_of_ble_eq_true rfl⟩ rfl (Nat.le_of_ble_eq_true rfl) (g_rv hM rfl) ⟨rfl, rfl⟩ (c_X7_copies hM (p := 213) (c := 0) (by decide) (by decide)) ?_
                      intro _ n w h9 _
                      obtain ⟨rfl, rfl, hM, hF_⟩ := h9
                      replace hF := Fr.tr hF hF_
                      refine st_bipush (q := 163) dX7_read_161 rfl bp_m20 ?_
                      refine st_iload (q := 165) dX7_read_163 rfl rfl ?_
                      refine st_isub (q := 166) dX7_read_165 rfl ?_
                      refine st_ireturn dX7_read_166 rfl ?_
                      first
                        | exact absurd c_128 (by decide)
                        | (have hE9 : (-20 - nI i, none) = R9 := by rw [← hE, rdF, if_pos hf0, hrc, if_pos (Int32.not_le.mp c_150)]
                           refine ⟨by rw [hr9, ← hE9], rfl, ?_, hF⟩
                           rw [hr9, ← hE9]
                           refine ⟨_, hM, ?_, fun q h71 h213 => ?_⟩
                           · refine hT.move (fun q hq => ?_)
                             rw [cpyM_in (by decide) hq]
                             exact ho2 _ (by omega)
                           · rw [cpyM_out (by decide) (by omega), ho2 q (by omega)]
                             exact ho q h71 h213)
                · have hf2 : faI (Sh j) y (ff + nI i) = 2 := by rw [faI, if_neg (by rw [em]; decide), if_pos ey, e3, ← inL_eq (by omega) hs40, if_neg (by rw [zI_0.mp c_116]; decide)]
                  refine st_iconst (q := 120) dX7_read_119 rfl ic_2 ?_
                  refine st_goto (q := 124) dX7_read_120 rfl ?_
                  refine st_istore (q := 126) (L' := [_, _, _, _, _, _, _, _]) dX7_read_124 rfl (Nat.le_of_ble_eq_true rfl) rfl ?_
                  refine st_iload (q := 128) dX7_read_126 rfl rfl ?_
                  refine st_if_ne (q := 131) (tgt := 170) dX7_read_128 rfl rfl (fun c_128 => ?_) (fun c_128 => ?_)
                  · refine st_iinc (q := 173) (L' := [_, _, _, _, _, _, _, _]) dX7_read_170 rfl rfl (nI_succ _).symm (Nat.le_of_ble_eq_true rfl) rfl ?_
                    refine st_goto (q := 56) dX7_read_173 rfl ?_
                    first
                      | exact absurd rfl c_128
                      | exact absurd c_128 (by decide)
                      | exact ex _ _ (by decide) (by rw [← hE, rdF, hf1]; rfl)
                      | exact ex _ _ (by decide) (by rw [← hE, rdF, hf2]; rfl)
                      | exact ex _ _ (by decide) (by rw [← hE, rdF, hf3]; rfl)
                      | exact ih (i + 1) (by omega) w f2 _ hM hF hR2 (hT.move (fun q hq => ho2 _ (by omega))) (fun q h71 h213 => by rw [ho2 q (by omega)]; exact ho q h71 h213) (by rw [← hE, rdF, if_pos hf0, hrc, if_neg (Int32.not_lt.mpr c_150)])
                  · refine st_aload_n (q := 132) dX7_read_131 rfl rfl rfl ?_
                    refine st_iconst (q := 133) dX7_read_132 rfl ic_0 ?_
                    refine st_aload_n (q := 134) dX7_read_133 rfl rfl rfl ?_
                    refine g_getA (q := 137) dX7_read_134 rfl fl_X7_41.g hM rfl ?_
                    refine st_bipush (q := 139) dX7_read_137 rfl bp_40 ?_
                    refine st_iload_n (q := 140) dX7_read_139 rfl rfl rfl ?_
                    refine st_imul (q := 141) dX7_read_140 rfl ?_
                    refine st_iload_n (q := 142) dX7_read_141 rfl rfl rfl ?_
                    refine st_iadd (q := 143) dX7_read_142 rfl ?_
                    refine st_iload (q := 145) dX7_read_143 rfl rfl ?_
                    refine st_iadd (q := 146) dX7_read_145 rfl ?_
                    refine m_ald (q := 147) dX7_read_146 rfl hM (i := 27) (by decide) rfl (by first | (rw [Int32.add_assoc, er]; exact ixm (a := 40) (m := j) (c := r) (by omega) (by decide)) | exact (show ev_ix _ 160 0 from absurd c_128 (by decide))) ?_
                    try rw [ecl r (by omega)]
                    refine sm_V2 (q := 150) (M' := mX7_stowsOn) dX7_read_147 rfl ok_X7_stowsOn mk_X7_stowsOn ml_X7_189 ⟨Nat.le_of_ble_eq_true rfl, Nat.le_of_ble_eq_true rfl⟩ rfl (Nat.le_of_ble_eq_true rfl) (g_rv hM rfl) ⟨rfl, rfl⟩ (c_X7_stowsOn Fr.rf hM (p := 0) (by decide) hR hG2) ?_
                    intro _ n w h9 _
                    obtain ⟨f2, rfl, rfl, hM, hR2, ho2, hF_⟩ := h9
                    replace hF := Fr.tr hF hF_
                    refine st_if_ge (q := 153) (tgt := 167) dX7_read_150 rfl rfl (fun c_150 => ?_) (fun c_150 => ?_)
                    · refine st_iinc (q := 170) (L' := [_, _, _, _, _, _, _, _]) dX7_read_167 rfl rfl (nI_succ _).symm (Nat.le_of_ble_eq_true rfl) rfl ?_
                      refine st_iinc (q := 173) (L' := [_, _, _, _, _, _, _, _]) dX7_read_170 rfl rfl (nI_succ _).symm (Nat.le_of_ble_eq_true rfl) rfl ?_
                      refine st_goto (q := 56) dX7_read_173 rfl ?_
                      first
                        | exact absurd rfl c_128
                        | exact absurd c_128 (by decide)
                        | exact ex _ _ (by decide) (by rw [← hE, rdF, hf1]; rfl)
                        | exact ex _ _ (by decide) (by rw [← hE, rdF, hf2]; rfl)
                        | exact ex _ _ (by decide) (by rw [← hE, rdF, hf3]; rfl)
                        | exact ih (i + 1) (by omega) w f2 _ hM hF hR2 (hT.move (fun q hq => ho2 _ (by omega))) (fun q h71 h213 => by rw [ho2 q (by omega)]; exact ho q h71 h213) (by rw [← hE, rdF, if_pos hf0, hrc, if_neg (Int32.not_lt.mpr c_150)])
                    · refine st_aload_n (q := 154) dX7_read_153 rfl rfl rfl ?_
                      refine st_sipush (q := 157) dX7_read_154 rfl sp_213 ?_
                      refine st_iconst (q := 158) dX7_read_157 rfl ic_0 ?_
                      refine sm_V2 (q := 161) (M' := mX7_copies) dX7_read_158 rfl ok_X7_copies mk_X7_copies ml_X7_200 ⟨Nat.le_of_ble_eq_true rfl, Nat.le_of_ble_eq_true rfl⟩ rfl (Nat.le_of_ble_eq_true rfl) (g_rv hM rfl) ⟨rfl, rfl⟩ (c_X7_copies hM (p := 213) (c := 0) (by decide) (by decide)) ?_
                      intro _ n w h9 _
                      obtain ⟨rfl, rfl, hM, hF_⟩ := h9
                      replace hF := Fr.tr hF hF_
                      refine st_bipush (q := 163) dX7_read_161 rfl bp_m20 ?_
                      refine st_iload (q := 165) dX7_read_163 rfl rfl ?_
                      refine st_isub (q := 166) dX7_read_165 rfl ?_
                      refine st_ireturn dX7_read_166 rfl ?_
                      first
                        | exact absurd c_128 (by decide)
                        | (have hE9 : (-20 - nI i, none) = R9 := by rw [← hE, rdF, if_pos hf0, hrc, if_pos (Int32.not_le.mp c_150)]
                           refine ⟨by rw [hr9, ← hE9], rfl, ?_, hF⟩
                           rw [hr9, ← hE9]
                           refine ⟨_, hM, ?_, fun q h71 h213 => ?_⟩
                           · refine hT.move (fun q hq => ?_)
                             rw [cpyM_in (by decide) hq]
                             exact ho2 _ (by omega)
                           · rw [cpyM_out (by decide) (by omega), ho2 q (by omega)]
                             exact ho q h71 h213)
              · have hf3 : faI (Sh j) y (ff + nI i) = 3 := by rw [faI, if_neg (by rw [em]; decide), if_neg (fun z9 => c_90 (by rw [z9, e2]))]
                refine st_iconst (q := 94) dX7_read_93 rfl ic_3 ?_
                refine st_goto (q := 124) dX7_read_94 rfl ?_
                refine st_istore (q := 126) (L' := [_, _, _, _, _, _, _, _]) dX7_read_124 rfl (Nat.le_of_ble_eq_true rfl) rfl ?_
                refine st_iload (q := 128) dX7_read_126 rfl rfl ?_
                refine st_if_ne (q := 131) (tgt := 170) dX7_read_128 rfl rfl (fun c_128 => ?_) (fun c_128 => ?_)
                · refine st_iinc (q := 173) (L' := [_, _, _, _, _, _, _, _]) dX7_read_170 rfl rfl (nI_succ _).symm (Nat.le_of_ble_eq_true rfl) rfl ?_
                  refine st_goto (q := 56) dX7_read_173 rfl ?_
                  first
                    | exact absurd rfl c_128
                    | exact absurd c_128 (by decide)
                    | exact ex _ _ (by decide) (by rw [← hE, rdF, hf1]; rfl)
                    | exact ex _ _ (by decide) (by rw [← hE, rdF, hf2]; rfl)
                    | exact ex _ _ (by decide) (by rw [← hE, rdF, hf3]; rfl)
                    | exact ih (i + 1) (by omega) w f2 _ hM hF hR2 (hT.move (fun q hq => ho2 _ (by omega))) (fun q h71 h213 => by rw [ho2 q (by omega)]; exact ho q h71 h213) (by rw [← hE, rdF, if_pos hf0, hrc, if_neg (Int32.not_lt.mpr c_150)])
                · refine st_aload_n (q := 132) dX7_read_131 rfl rfl rfl ?_
                  refine st_iconst (q := 133) dX7_read_132 rfl ic_0 ?_
                  refine st_aload_n (q := 134) dX7_read_133 rfl rfl rfl ?_
                  refine g_getA (q := 137) dX7_read_134 rfl fl_X7_41.g hM rfl ?_
                  refine st_bipush (q := 139) dX7_read_137 rfl bp_40 ?_
                  refine st_iload_n (q := 140) dX7_read_139 rfl rfl rfl ?_
                  refine st_imul (q := 141) dX7_read_140 rfl ?_
                  refine st_iload_n (q := 142) dX7_read_141 rfl rfl rfl ?_
                  refine st_iadd (q := 143) dX7_read_142 rfl ?_
                  refine st_iload (q := 145) dX7_read_143 rfl rfl ?_
                  refine st_iadd (q := 146) dX7_read_145 rfl ?_
                  refine m_ald (q := 147) dX7_read_146 rfl hM (i := 27) (by decide) rfl (by first | (rw [Int32.add_assoc, er]; exact ixm (a := 40) (m := j) (c := r) (by omega) (by decide)) | exact (show ev_ix _ 160 0 from absurd c_128 (by decide))) ?_
                  try rw [ecl r (by omega)]
                  refine sm_V2 (q := 150) (M' := mX7_stowsOn) dX7_read_147 rfl ok_X7_stowsOn mk_X7_stowsOn ml_X7_189 ⟨Nat.le_of_ble_eq_true rfl, Nat.le_of_ble_eq_true rfl⟩ rfl (Nat.le_of_ble_eq_true rfl) (g_rv hM rfl) ⟨rfl, rfl⟩ (c_X7_stowsOn Fr.rf hM (p := 0) (by decide) hR hG2) ?_
                  intro _ n w h9 _
                  obtain ⟨f2, rfl, rfl, hM, hR2, ho2, hF_⟩ := h9
                  replace hF := Fr.tr hF hF_
                  refine st_if_ge (q := 153) (tgt := 167) dX7_read_150 rfl rfl (fun c_150 => ?_) (fun c_150 => ?_)
                  · refine st_iinc (q := 170) (L' := [_, _, _, _, _, _, _, _]) dX7_read_167 rfl rfl (nI_succ _).symm (Nat.le_of_ble_eq_true rfl) rfl ?_
                    refine st_iinc (q := 173) (L' := [_, _, _, _, _, _, _, _]) dX7_read_170 rfl rfl (nI_succ _).symm (Nat.le_of_ble_eq_true rfl) rfl ?_
                    refine st_goto (q := 56) dX7_read_173 rfl ?_
                    first
                      | exact absurd rfl c_128
                      | exact absurd c_128 (by decide)
                      | exact ex _ _ (by decide) (by rw [← hE, rdF, hf1]; rfl)
                      | exact ex _ _ (by decide) (by rw [← hE, rdF, hf2]; rfl)
                      | exact ex _ _ (by decide) (by rw [← hE, rdF, hf3]; rfl)
                      | exact ih (i + 1) (by omega) w f2 _ hM hF hR2 (hT.move (fun q hq => ho2 _ (by omega))) (fun q h71 h213 => by rw [ho2 q (by omega)]; exact ho q h71 h213) (by rw [← hE, rdF, if_pos hf0, hrc, if_neg (Int32.not_lt.mpr c_150)])
                  · refine st_aload_n (q := 154) dX7_read_153 rfl rfl rfl ?_
                    refine st_sipush (q := 157) dX7_read_154 rfl sp_213 ?_
                    refine st_iconst (q := 158) dX7_read_157 rfl ic_0 ?_
                    refine sm_V2 (q := 161) (M' := mX7_copies) dX7_read_158 rfl ok_X7_copies mk_X7_copies ml_X7_200 ⟨Nat.le_of_ble_eq_true rfl, Nat.le_of_ble_eq_true rfl⟩ rfl (Nat.le_of_ble_eq_true rfl) (g_rv hM rfl) ⟨rfl, rfl⟩ (c_X7_copies hM (p := 213) (c := 0) (by decide) (by decide)) ?_
                    intro _ n w h9 _
                    obtain ⟨rfl, rfl, hM, hF_⟩ := h9
                    replace hF := Fr.tr hF hF_
                    refine st_bipush (q := 163) dX7_read_161 rfl bp_m20 ?_
                    refine st_iload (q := 165) dX7_read_163 rfl rfl ?_
                    refine st_isub (q := 166) dX7_read_165 rfl ?_
                    refine st_ireturn dX7_read_166 rfl ?_
                    first
                      | exact absurd c_128 (by decide)
                      | (have hE9 : (-20 - nI i, none) = R9 := by rw [← hE, rdF, if_pos hf0, hrc, if_pos (Int32.not_le.mp c_150)]
                         refine ⟨by rw [hr9, ← hE9], rfl, ?_, hF⟩
                         rw [hr9, ← hE9]
                         refine ⟨_, hM, ?_, fun q h71 h213 => ?_⟩
                         · refine hT.move (fun q hq => ?_)
                           rw [cpyM_in (by decide) hq]
                           exact ho2 _ (by omega)
                         · rw [cpyM_out (by decide) (by omega), ho2 q (by omega)]
                           exact ho q h71 h213)
            · have hf1 : faI (Sh j) y (ff + nI i) = 1 := by
                rcases hsh with z9 | z9
                · rw [faI, if_pos z9.1]
                · obtain ⟨l, hl, el⟩ := z9.2.1
                  exact absurd (by rw [← el]; exact c_76) (nI_n4 (i := l) (by omega))
              refine st_iconst (q := 80) dX7_read_79 rfl ic_1 ?_
              refine st_goto (q := 124) dX7_read_80 rfl ?_
              refine st_istore (q := 126) (L' := [_, _, _, _, _, _, _, _]) dX7_read_124 rfl (Nat.le_of_ble_eq_true rfl) rfl ?_
              refine st_iload (q := 128) dX7_read_126 rfl rfl ?_
              refine st_if_ne (q := 131) (tgt := 170) dX7_read_128 rfl rfl (fun c_128 => ?_) (fun c_128 => ?_)
              · refine st_iinc (q := 173) (L' := [_, _, _, _, _, _, _, _]) dX7_read_170 rfl rfl (nI_succ _).symm (Nat.le_of_ble_eq_true rfl) rfl ?_
                refine st_goto (q := 56) dX7_read_173 rfl ?_
                first
                  | exact absurd rfl c_128
                  | exact absurd c_128 (by decide)
                  | exact ex _ _ (by decide) (by rw [← hE, rdF, hf1]; rfl)
                  | exact ex _ _ (by decide) (by rw [← hE, rdF, hf2]; rfl)
                  | exact ex _ _ (by decide) (by rw [← hE, rdF, hf3]; rfl)
                  | exact ih (i + 1) (by omega) w f2 _ hM hF hR2 (hT.move (fun q hq => ho2 _ (by omega))) (fun q h71 h213 => by rw [ho2 q (by omega)]; exact ho q h71 h213) (by rw [← hE, rdF, if_pos hf0, hrc, if_neg (Int32.not_lt.mpr c_150)])
              · refine st_aload_n (q := 132) dX7_read_131 rfl rfl rfl ?_
                refine st_iconst (q := 133) dX7_read_132 rfl ic_0 ?_
                refine st_aload_n (q := 134) dX7_read_133 rfl rfl rfl ?_
                refine g_getA (q := 137) dX7_read_134 rfl fl_X7_41.g hM rfl ?_
                refine st_bipush (q := 139) dX7_read_137 rfl bp_40 ?_
                refine st_iload_n (q := 140) dX7_read_139 rfl rfl rfl ?_
                refine st_imul (q := 141) dX7_read_140 rfl ?_
                refine st_iload_n (q := 142) dX7_read_141 rfl rfl rfl ?_
                refine st_iadd (q := 143) dX7_read_142 rfl ?_
                refine st_iload (q := 145) dX7_read_143 rfl rfl ?_
                refine st_iadd (q := 146) dX7_read_145 rfl ?_
                refine m_ald (q := 147) dX7_read_146 rfl hM (i := 27) (by decide) rfl (by first | (rw [Int32.add_assoc, er]; exact ixm (a := 40) (m := j) (c := r) (by omega) (by decide)) | exact (show ev_ix _ 160 0 from absurd c_128 (by decide))) ?_
                try rw [ecl r (by omega)]
                refine sm_V2 (q := 150) (M' := mX7_stowsOn) dX7_read_147 rfl ok_X7_stowsOn mk_X7_stowsOn ml_X7_189 ⟨Nat.le_of_ble_eq_true rfl, Nat.le_of_ble_eq_true rfl⟩ rfl (Nat.le_of_ble_eq_true rfl) (g_rv hM rfl) ⟨rfl, rfl⟩ (c_X7_stowsOn Fr.rf hM (p := 0) (by decide) hR hG2) ?_
                intro _ n w h9 _
                obtain ⟨f2, rfl, rfl, hM, hR2, ho2, hF_⟩ := h9
                replace hF := Fr.tr hF hF_
                refine st_if_ge (q := 153) (tgt := 167) dX7_read_150 rfl rfl (fun c_150 => ?_) (fun c_150 => ?_)
                · refine st_iinc (q := 170) (L' := [_, _, _, _, _, _, _, _]) dX7_read_167 rfl rfl (nI_succ _).symm (Nat.le_of_ble_eq_true rfl) rfl ?_
                  refine st_iinc (q := 173) (L' := [_, _, _, _, _, _, _, _]) dX7_read_170 rfl rfl (nI_succ _).symm (Nat.le_of_ble_eq_true rfl) rfl ?_
                  refine st_goto (q := 56) dX7_read_173 rfl ?_
                  first
                    | exact absurd rfl c_128
                    | exact absurd c_128 (by decide)
                    | exact ex _ _ (by decide) (by rw [← hE, rdF, hf1]; rfl)
                    | exact ex _ _ (by decide) (by rw [← hE, rdF, hf2]; rfl)
                    | exact ex _ _ (by decide) (by rw [← hE, rdF, hf3]; rfl)
                    | exact ih (i + 1) (by omega) w f2 _ hM hF hR2 (hT.move (fun q hq => ho2 _ (by omega))) (fun q h71 h213 => by rw [ho2 q (by omega)]; exact ho q h71 h213) (by rw [← hE, rdF, if_pos hf0, hrc, if_neg (Int32.not_lt.mpr c_150)])
                · refine st_aload_n (q := 154) dX7_read_153 rfl rfl rfl ?_
                  refine st_sipush (q := 157) dX7_read_154 rfl sp_213 ?_
                  refine st_iconst (q := 158) dX7_read_157 rfl ic_0 ?_
                  refine sm_V2 (q := 161) (M' := mX7_copies) dX7_read_158 rfl ok_X7_copies mk_X7_copies ml_X7_200 ⟨Nat.le_of_ble_eq_true rfl, Nat.le_of_ble_eq_true rfl⟩ rfl (Nat.le_of_ble_eq_true rfl) (g_rv hM rfl) ⟨rfl, rfl⟩ (c_X7_copies hM (p := 213) (c := 0) (by decide) (by decide)) ?_
                  intro _ n w h9 _
                  obtain ⟨rfl, rfl, hM, hF_⟩ := h9
                  replace hF := Fr.tr hF hF_
                  refine st_bipush (q := 163) dX7_read_161 rfl bp_m20 ?_
                  refine st_iload (q := 165) dX7_read_163 rfl rfl ?_
                  refine st_isub (q := 166) dX7_read_165 rfl ?_
                  refine st_ireturn dX7_read_166 rfl ?_
                  first
                    | exact absurd c_128 (by decide)
                    | (have hE9 : (-20 - nI i, none) = R9 := by rw [← hE, rdF, if_pos hf0, hrc, if_pos (Int32.not_le.mp c_150)]
                       refine ⟨by rw [hr9, ← hE9], rfl, ?_, hF⟩
                       rw [hr9, ← hE9]
                       refine ⟨_, hM, ?_, fun q h71 h213 => ?_⟩
                       · refine hT.move (fun q hq => ?_)
                         rw [cpyM_in (by decide) hq]
                         exact ho2 _ (by omega)
                       · rw [cpyM_out (by decide) (by omega), ho2 q (by omega)]
                         exact ho q h71 h213)
        exact lp m 0 (by omega) w _ T hM hF (hG.1.move (fun q hq => by rw [Nat.zero_add]; exact cpyM_out (by decide) (by omega))) (hG.1.cpy (by decide)) (fun q _ _ => cpyM_out (by decide) (by omega)) hr0.symm
      · refine st_iconst (q := 38) dX7_read_37 rfl ic_m1 ?_
        refine st_ireturn dX7_read_38 rfl ?_
        first
          | (have hb : readR Sh T nt x y ff z = (-1, none) := by rw [readR, if_neg (by rw [zI_0.mp c_9]; decide)]
             exact ⟨by rw [hb], rfl, by rw [hb]; exact ⟨f, hM, hG.1, fun _ _ _ => rfl⟩, hF⟩)
          | (have hb : readR Sh T nt x y ff z = (-1, none) := by rw [readR, if_pos (zI_1.mp c_9), if_neg (by rw [zI_0.mp c_21]; decide)]
             exact ⟨by rw [hb], rfl, by rw [hb]; exact ⟨f, hM, hG.1, fun _ _ _ => rfl⟩, hF⟩)
          | (have hb : readR Sh T nt x y ff z = (-1, none) := by rw [readR, if_pos (zI_1.mp c_9), if_pos (zI_1.mp c_21), if_neg (by rw [zI_0.mp c_34]; decide)]
             exact ⟨by rw [hb], rfl, by rw [hb]; exact ⟨f, hM, hG.1, fun _ _ _ => rfl⟩, hF⟩)
def mcoA (S T : gT) (nh nt : Nat) (x : Int32) : Int32 := if x = 0 then S 22 0 else if x = 1 then (if S 24 0 = 0 then 0 else 1) + (if S 24 1 = 0 then 0 else 1) else if x = 2 then S 10 0 else if x = 3 then (if S 25 0 = -4 then -4 else S 26 0) else if x = 4 then smF (T 2) nh else if x = 5 then smF (T 10) nt else -1
set_option maxRecDepth 100000 in
set_option maxHeartbeats 4000000 in
theorem c_X7_count {E : ev_E} {n : Nat} {w : ev_W} {S : gT} {f : Nat → Int32} {w0 : ev_W} (hF : Fr 70 82 w0 w) (hM : MR S f 70 n w) {T : gT} {nh nt dd : Nat} (hG : GQ S f T nh nt dd) {x : Int32} : Ct E mX7_count [.ref 70, .int x] n w (ev_mr (mcoA S T nh nt x) n w0 (MR S f 70 n)) := by
  refine Ct.of 3 (by decide) (Nat.le_of_ble_eq_true rfl) rfl ?_
  have hN8 := hG.1.1.hnt
  have hN4 := hG.1.1.hnh
  have lp2 : ∀ (k i : Nat), i + k = nt → Ev E mX7_count 37 [some (.ref 70), some (.int x), some (.int (smF (T 2) nh)), some (.int (smF (T 10) i)), some (.int (nI i))] [] n w (0, 0) (ev_mr (mcoA S T nh nt x) n w0 (MR S f 70 n)) := by
    intro k
    induction k with
    | zero =>
      intro i hi
      obtain rfl : nt = i := by omega
      refine st_iload (q := 39) dX7_count_37 rfl rfl ?_
      refine st_aload_n (q := 40) dX7_count_39 rfl rfl rfl ?_
      refine m_get (q := 43) dX7_count_40 rfl fl_X7_139.g hM (by decide) rfl ?_
      refine st_icmp_ge (q := 46) (tgt := 65) dX7_count_43 rfl rfl (fun c_43 => ?_) (fun c_43 => False.elim (c_43 (by rw [hG.2.2.1]; exact Int32.le_refl _)))
      refine st_iload_n (q := 66) dX7_count_65 rfl rfl rfl ?_
      refine st_tabK 0 (v := 0) (tgt := 104) dX7_count_66 rfl rfl (by decide) (by decide) (fun c_66_0 => ?_) (fun c_66_0 t_66_0 => ?_)
      · refine st_aload_n (q := 105) dX7_count_104 rfl rfl rfl ?_
        refine m_get (q := 108) dX7_count_105 rfl fl_X7_142.g hM (by decide) rfl ?_
        refine st_ireturn dX7_count_108 rfl ?_
        refine ⟨?_, rfl, hM, hF⟩
        rw [mcoA, if_pos c_66_0]
      refine st_tabK 1 (v := 1) (tgt := 109) dX7_count_66 rfl rfl (by decide) (by decide) (fun c_66_1 => ?_) (fun c_66_1 t_66_1 => ?_)
      · refine st_aload_n (q := 110) dX7_count_109 rfl rfl rfl ?_
        refine g_getA (q := 113) dX7_count_110 rfl fl_X7_31.g hM rfl ?_
        refine st_iconst (q := 114) dX7_count_113 rfl ic_0 ?_
        refine m_zld (q := 115) dX7_count_114 rfl hM (i := 24) (by decide) rfl (by exact ev_ix_nI (j := 0) (by decide) (by decide)) ?_
        refine st_if_eq (q := 118) (tgt := 122) dX7_count_115 rfl rfl (fun c_115 => ?_) (fun c_115 => ?_)
        · refine st_iconst (q := 123) dX7_count_122 rfl ic_0 ?_
          refine st_aload_n (q := 124) dX7_count_123 rfl rfl rfl ?_
          refine g_getA (q := 127) dX7_count_124 rfl fl_X7_31.g hM rfl ?_
          refine st_iconst (q := 128) dX7_count_127 rfl ic_1 ?_
          refine m_zld (q := 129) dX7_count_128 rfl hM (i := 24) (by decide) rfl (by exact ev_ix_nI (j := 1) (by decide) (by decide)) ?_
          refine st_if_eq (q := 132) (tgt := 136) dX7_count_129 rfl rfl (fun c_129 => ?_) (fun c_129 => ?_)
          · refine st_iconst (q := 137) dX7_count_136 rfl ic_0 ?_
            refine st_iadd (q := 138) dX7_count_137 rfl ?_
            refine st_ireturn dX7_count_138 rfl ?_
            refine ⟨?_, rfl, hM, hF⟩
            rw [mcoA, if_neg c_66_0, if_pos c_66_1]
            first
              | rw [if_pos c_115, if_pos c_129]
              | rw [if_pos c_115, if_neg c_129]
              | rw [if_neg c_115, if_pos c_129]
              | rw [if_neg c_115, if_neg c_129]
          · refine st_iconst (q := 133) dX7_count_132 rfl ic_1 ?_
            refine st_goto (q := 137) dX7_count_133 rfl ?_
            refine st_iadd (q := 138) dX7_count_137 rfl ?_
            refine st_ireturn dX7_count_138 rfl ?_
            refine ⟨?_, rfl, hM, hF⟩
            rw [mcoA, if_neg c_66_0, if_pos c_66_1]
            first
              | rw [if_pos c_115, if_pos c_129]
              | rw [if_pos c_115, if_neg c_129]
              | rw [if_neg c_115, if_pos c_129]
              | rw [if_neg c_115, if_neg c_129]
        · refine st_iconst (q := 119) dX7_count_118 rfl ic_1 ?_
          refine st_goto (q := 123) dX7_count_119 rfl ?_
          refine st_aload_n (q := 124) dX7_count_123 rfl rfl rfl ?_
          refine g_getA (q := 127) dX7_count_124 rfl fl_X7_31.g hM rfl ?_
          refine st_iconst (q := 128) dX7_count_127 rfl ic_1 ?_
          refine m_zld (q := 129) dX7_count_128 rfl hM (i := 24) (by decide) rfl (by exact ev_ix_nI (j := 1) (by decide) (by decide)) ?_
          refine st_if_eq (q := 132) (tgt := 136) dX7_count_129 rfl rfl (fun c_129 => ?_) (fun c_129 => ?_)
          · refine st_iconst (q := 137) dX7_count_136 rfl ic_0 ?_
            refine st_iadd (q := 138) dX7_count_137 rfl ?_
            refine st_ireturn dX7_count_138 rfl ?_
            refine ⟨?_, rfl, hM, hF⟩
            rw [mcoA, if_neg c_66_0, if_pos c_66_1]
            first
              | rw [if_pos c_115, if_pos c_129]
              | rw [if_pos c_115, if_neg c_129]
              | rw [if_neg c_115, if_pos c_129]
              | rw [if_neg c_115, if_neg c_129]
          · refine st_iconst (q := 133) dX7_count_132 rfl ic_1 ?_
            refine st_goto (q := 137) dX7_count_133 rfl ?_
            refine st_iadd (q := 138) dX7_count_137 rfl ?_
            refine st_ireturn dX7_count_138 rfl ?_
            refine ⟨?_, rfl, hM, hF⟩
            rw [mcoA, if_neg c_66_0, if_pos c_66_1]
            first
              | rw [if_pos c_115, if_pos c_129]
              | rw [if_pos c_115, if_neg c_129]
              | rw [if_neg c_115, if_pos c_129]
              | rw [if_neg c_115, if_neg c_129]
      refine st_tabK 2 (v := 2) (tgt := 139) dX7_count_66 rfl rfl (by decide) (by decide) (fun c_66_2 => ?_) (fun c_66_2 t_66_2 => ?_)
      · refine st_aload_n (q := 140) dX7_count_139 rfl rfl rfl ?_
        refine m_get (q := 143) dX7_count_140 rfl fl_X7_50.g hM (by decide) rfl ?_
        refine st_ireturn dX7_count_143 rfl ?_
        refine ⟨?_, rfl, hM, hF⟩
        rw [mcoA, if_neg c_66_0, if_neg c_66_1, if_pos c_66_2]
      refine st_tabK 3 (v := 3) (tgt := 144) dX7_count_66 rfl rfl (by decide) (by decide) (fun c_66_3 => ?_) (fun c_66_3 t_66_3 => ?_)
      · refine st_aload_n (q := 145) dX7_count_144 rfl rfl rfl ?_
        refine g_getA (q := 148) dX7_count_145 rfl fl_X7_35.g hM rfl ?_
        refine st_iconst (q := 149) dX7_count_148 rfl ic_0 ?_
        refine m_ald (q := 150) dX7_count_149 rfl hM (i := 25) (by decide) rfl (by exact ev_ix_nI (j := 0) (by decide) (by decide)) ?_
        refine st_bipush (q := 152) dX7_count_150 rfl bp_m4 ?_
        refine st_icmp_ne (q := 155) (tgt := 160) dX7_count_152 rfl rfl (fun c_152 => ?_) (fun c_152 => ?_)
        · refine st_aload_n (q := 161) dX7_count_160 rfl rfl rfl ?_
          refine g_getA (q := 164) dX7_count_161 rfl fl_X7_38.g hM rfl ?_
          refine st_iconst (q := 165) dX7_count_164 rfl ic_0 ?_
          refine m_ald (q := 166) dX7_count_165 rfl hM (i := 26) (by decide) rfl (by exact ev_ix_nI (j := 0) (by decide) (by decide)) ?_
          refine st_ireturn dX7_count_166 rfl ?_
          refine ⟨?_, rfl, hM, hF⟩
          rw [mcoA, if_neg c_66_0, if_neg c_66_1, if_neg c_66_2, if_pos c_66_3]
          first
            | rw [if_pos c_152]
            | rw [if_neg c_152]
        · refine st_bipush (q := 157) dX7_count_155 rfl bp_m4 ?_
          refine st_goto (q := 166) dX7_count_157 rfl ?_
          refine st_ireturn dX7_count_166 rfl ?_
          refine ⟨?_, rfl, hM, hF⟩
          rw [mcoA, if_neg c_66_0, if_neg c_66_1, if_neg c_66_2, if_pos c_66_3]
          first
            | rw [if_pos c_152]
            | rw [if_neg c_152]
      refine st_tabK 4 (v := 4) (tgt := 167) dX7_count_66 rfl rfl (by decide) (by decide) (fun c_66_4 => ?_) (fun c_66_4 t_66_4 => ?_)
      · refine st_iload_n (q := 168) dX7_count_167 rfl rfl rfl ?_
        refine st_ireturn dX7_count_168 rfl ?_
        refine ⟨?_, rfl, hM, hF⟩
        rw [mcoA, if_neg c_66_0, if_neg c_66_1, if_neg c_66_2, if_neg c_66_3, if_pos c_66_4]
      refine st_tabK 5 (v := 5) (tgt := 169) dX7_count_66 rfl rfl (by decide) (by decide) (fun c_66_5 => ?_) (fun c_66_5 t_66_5 => ?_)
      · refine st_iload_n (q := 170) dX7_count_169 rfl rfl rfl ?_
        refine st_ireturn dX7_count_170 rfl ?_
        refine ⟨?_, rfl, hM, hF⟩
        rw [mcoA, if_neg c_66_0, if_neg c_66_1, if_neg c_66_2, if_neg c_66_3, if_neg c_66_4, if_pos c_66_5]
      refine st_tableOut (tgt := 171) dX7_count_66 (by omega) rfl ?_
      refine st_iconst (q := 172) dX7_count_171 rfl ic_m1 ?_
      refine st_ireturn dX7_count_172 rfl ?_
      refine ⟨?_, rfl, hM, hF⟩
      rw [mcoA, if_neg c_66_0, if_neg c_66_1, if_neg c_66_2, if_neg c_66_3, if_neg c_66_4, if_neg c_66_5]
    | succ k ih =>
      intro i hi
      refine st_iload (q := 39) dX7_count_37 rfl rfl ?_
      refine st_aload_n (q := 40) dX7_count_39 rfl rfl rfl ?_
      refine m_get (q := 43) dX7_count_40 rfl fl_X7_139.g hM (by decide) rfl ?_
      refine st_icmp_ge (q := 46) (tgt := 65) dX7_count_43 rfl rfl (fun c_43 => False.elim (absurd (by rw [← hG.2.2.1]; exact c_43) (nI_ge (a := i) (b := nt) (by omega) (by omega)))) (fun c_43 => ?_)
      refine st_iload_n (q := 47) dX7_count_46 rfl rfl rfl ?_
      refine st_aload_n (q := 48) dX7_count_47 rfl rfl rfl ?_
      refine g_getA (q := 51) dX7_count_48 rfl fl_X7_7.g hM rfl ?_
      refine st_bipush (q := 53) dX7_count_51 rfl bp_44 ?_
      refine st_iload (q := 55) dX7_count_53 rfl rfl ?_
      refine st_iadd (q := 56) dX7_count_55 rfl ?_
      refine m_sld (q := 57) dX7_count_56 rfl hM (by exact ix2 (a := 44) (b := i) (by omega) (by decide)) ?_
      have e44 : f (44 + i) = T 10 i := by have := (hG.1.1.is (k := i) (by omega)).2.2.2.1; rw [Nat.zero_add] at this; exact this.symm
      rw [e44]
      refine st_iadd (q := 58) dX7_count_57 rfl ?_
      refine st_istore_n (q := 59) (L' := [_, _, _, _, _]) dX7_count_58 rfl rfl (Nat.le_of_ble_eq_true rfl) rfl ?_
      refine st_iinc (q := 62) (L' := [_, _, _, _, _]) dX7_count_59 rfl rfl (nI_succ _).symm (Nat.le_of_ble_eq_true rfl) rfl ?_
      refine st_goto (q := 37) dX7_count_62 rfl ?_
      exact ih (i + 1) (by omega)
  have lp1 : ∀ (k i : Nat), i + k = nh → Ev E mX7_count 7 [some (.ref 70), some (.int x), some (.int (smF (T 2) i)), some (.int 0), some (.int (nI i))] [] n w (0, 0) (ev_mr (mcoA S T nh nt x) n w0 (MR S f 70 n)) := by
    intro k
    induction k with
    | zero =>
      intro i hi
      obtain rfl : nh = i := by omega
      refine st_iload (q := 9) dX7_count_7 rfl rfl ?_
      refine st_aload_n (q := 10) dX7_count_9 rfl rfl rfl ?_
      refine m_get (q := 13) dX7_count_10 rfl fl_X7_136.g hM (by decide) rfl ?_
      refine st_icmp_ge (q := 16) (tgt := 34) dX7_count_13 rfl rfl (fun c_13 => ?_) (fun c_13 => False.elim (c_13 (by rw [hG.2.1]; exact Int32.le_refl _)))
      refine st_iconst (q := 35) dX7_count_34 rfl ic_0 ?_
      refine st_istore (q := 37) (L' := [_, _, _, _, _]) dX7_count_35 rfl (Nat.le_of_ble_eq_true rfl) rfl ?_
      exact lp2 nt 0 (by omega)
    | succ k ih =>
      intro i hi
      refine st_iload (q := 9) dX7_count_7 rfl rfl ?_
      refine st_aload_n (q := 10) dX7_count_9 rfl rfl rfl ?_
      refine m_get (q := 13) dX7_count_10 rfl fl_X7_136.g hM (by decide) rfl ?_
      refine st_icmp_ge (q := 16) (tgt := 34) dX7_count_13 rfl rfl (fun c_13 => False.elim (absurd (by rw [← hG.2.1]; exact c_13) (nI_ge (a := i) (b := nh) (by omega) (by omega)))) (fun c_13 => ?_)
      refine st_iload_n (q := 17) dX7_count_16 rfl rfl rfl ?_
      refine st_aload_n (q := 18) dX7_count_17 rfl rfl rfl ?_
      refine g_getA (q := 21) dX7_count_18 rfl fl_X7_7.g hM rfl ?_
      refine st_iconst (q := 22) dX7_count_21 rfl ic_4 ?_
      refine st_iload (q := 24) dX7_count_22 rfl rfl ?_
      refine st_iadd (q := 25) dX7_count_24 rfl ?_
      refine m_sld (q := 26) dX7_count_25 rfl hM (by exact ix2 (a := 4) (b := i) (by omega) (by decide)) ?_
      have e4 : f (4 + i) = T 2 i := by have := (hG.1.1.hs (k := i) (by omega)).2.1; rw [Nat.zero_add] at this; exact this.symm
      rw [e4]
      refine st_iadd (q := 27) dX7_count_26 rfl ?_
      refine st_istore_n (q := 28) (L' := [_, _, _, _, _]) dX7_count_27 rfl rfl (Nat.le_of_ble_eq_true rfl) rfl ?_
      refine st_iinc (q := 31) (L' := [_, _, _, _, _]) dX7_count_28 rfl rfl (nI_succ _).symm (Nat.le_of_ble_eq_true rfl) rfl ?_
      refine st_goto (q := 7) dX7_count_31 rfl ?_
      exact ih (i + 1) (by omega)
  refine st_iconst (q := 1) dX7_count_0 rfl ic_0 ?_
  refine st_istore_n (q := 2) (L' := [_, _, _, _, _]) dX7_count_1 rfl rfl (Nat.le_of_ble_eq_true rfl) rfl ?_
  refine st_iconst (q := 3) dX7_count_2 rfl ic_0 ?_
  refine st_istore_n (q := 4) (L' := [_, _, _, _, _]) dX7_count_3 rfl rfl (Nat.le_of_ble_eq_true rfl) rfl ?_
  refine st_iconst (q := 5) dX7_count_4 rfl ic_0 ?_
  refine st_istore (q := 7) (L' := [_, _, _, _, _]) dX7_count_5 rfl (Nat.le_of_ble_eq_true rfl) rfl ?_
  exact lp1 nh 0 (by omega)
