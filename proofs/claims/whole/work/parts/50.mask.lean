set_option maxRecDepth 100000 in
set_option maxHeartbeats 4000000 in
theorem c_X7_ask {E : ev_E} {n : Nat} {w : ev_W} {S0 S : gT} {f0 f : Nat → Int32} {w0 : ev_W} (hF : Fr 70 82 w0 w) (hM : MR S f 70 n w) (hA : QA S0 S f0 f) {T : gT} {nh nt dd : Nat} (hG : GQ S f T nh nt dd) {Sg : gT} {sz : Nat} (hg9 : SG Sg S sz) {x y : Int32} : Ct E mX7_ask [.ref 70, .int x, .int y] n w (ev_mr (askS Sg T nh nt dd sz x y) n w0 (QR S0 f0 n)) := by
  refine Ct.of 8 (by decide) (Nat.le_of_ble_eq_true rfl) rfl ?_
  refine st_aload_n (q := 1) dX7_ask_0 rfl rfl rfl ?_
  refine st_iload_n (q := 2) dX7_ask_1 rfl rfl rfl ?_
  refine sp_V1 (q := 5) (M' := mX7_isHouse) dX7_ask_2 rfl ok_X7_isHouse mk_X7_isHouse ml_X7_167 ⟨Nat.le_of_ble_eq_true rfl, Nat.le_of_ble_eq_true rfl⟩ rfl (Nat.le_of_ble_eq_true rfl) (g_rv hM rfl) ⟨rfl, rfl⟩ (c_X7_isHouse hM) ?_
  refine st_if_eq (q := 8) (tgt := 18) dX7_ask_5 rfl rfl (fun c_5 => ?_) (fun c_5 => ?_)
  · refine st_iconst (q := 19) dX7_ask_18 rfl ic_m1 ?_
    refine st_ireturn dX7_ask_19 rfl ?_
    first
      | exact ⟨by rw [askS, if_neg (by rw [← hG.2.1, zI_0.mp c_5]; decide)], rfl, ⟨_, _, hM, hA⟩, hF⟩
      | exact ⟨by rw [askS, if_pos (by rw [← hG.2.1]; exact zI_1.mp c_5), if_neg (by rw [zI_0.mp c_15]; decide)], rfl, ⟨_, _, hM, hA⟩, hF⟩
  · refine st_iload_n (q := 9) dX7_ask_8 rfl rfl rfl ?_
    refine st_i2l (q := 10) dX7_ask_9 rfl ?_
    refine st_lconst (q := 11) dX7_ask_10 rfl lc_0 ?_
    refine st_lconst (q := 12) dX7_ask_11 rfl lc_1 ?_
    refine sp_S3 (q := 15) (M' := mX7_in) dX7_ask_12 rfl ok_X7_in mk_X7_in ml_X7_46 ⟨Nat.le_of_ble_eq_true rfl, Nat.le_of_ble_eq_true rfl⟩ rfl (Nat.le_of_ble_eq_true rfl) ⟨rfl, rfl⟩ (c_X7_inI (a := 0) (c := 1) (by decide) (by decide)) ?_
    refine st_if_ne (q := 18) (tgt := 20) dX7_ask_15 rfl rfl (fun c_15 => ?_) (fun c_15 => ?_)
    · have hN9 := hG.1.1.hnh
      obtain ⟨j, hj, rfl⟩ := inI_ix (by rw [← hG.2.1]; exact zI_1.mp c_5) (by omega)
      have h1 : inI (nI j) 0 (nI nh - 1) = true := by rw [← hG.2.1]; exact zI_1.mp c_5
      have hjc : (nI j).toNatClampNeg = j := nI_clamp (by omega)
      have h2 : inI y 0 1 = true := zI_1.mp c_15
      refine st_aload_n (q := 21) dX7_ask_20 rfl rfl rfl ?_
      refine st_iconst (q := 22) dX7_ask_21 rfl ic_4 ?_
      refine st_iload_n (q := 23) dX7_ask_22 rfl rfl rfl ?_
      refine st_iadd (q := 24) dX7_ask_23 rfl ?_
      refine st_bipush (q := 26) dX7_ask_24 rfl bp_30 ?_
      rw [show (4 : Int32) + nI j = nI (4 + j) from by rw [← nI_add]; rfl]
      refine sm_V2 (q := 29) (M' := mX7_numbersAt) dX7_ask_26 rfl ok_X7_numbersAt mk_X7_numbersAt ml_X7_232 ⟨Nat.le_of_ble_eq_true rfl, Nat.le_of_ble_eq_true rfl⟩ rfl (Nat.le_of_ble_eq_true rfl) (g_rv hM rfl) ⟨rfl, rfl⟩ (c_X7_numbersAt Fr.rf hM hG hg9 (p9 := 4 + j) (g := 2) (j := j) (mo := 30) (by omega) (by decide) (fun v hv => by have h8 := hG.1.set2 (k := j) hj (v := nI v) (rg_of (m := 40) (by omega) (by decide)); rw [Nat.zero_add] at h8; exact h8)) ?_
      intro _ n w h9 _
      obtain ⟨S, f, rfl, rfl, hM, hA_, hsb, hF_⟩ := h9
      replace hG := hG.qa hA_
      replace hA := hA.tr hA_
      replace hF := Fr.tr hF hF_
      obtain ⟨N, hN, eN⟩ := bs_nat (fun r => seF Sg (tup T 2 j (nI r)) dd nh nt sz) 31 (by decide)
      have eR : rmI Sg T nh nt dd sz j = nI N := eN
      rw [eN]
      refine st_istore_n (q := 30) (L' := [_, _, _, _, _, _, _, _, _, _, _]) dX7_ask_29 rfl rfl (Nat.le_of_ble_eq_true rfl) rfl ?_
      refine st_iload_n (q := 31) dX7_ask_30 rfl rfl rfl ?_
      refine sp_S1 (q := 34) (M' := mX7_bitsOf) dX7_ask_31 rfl ok_X7_bitsOf mk_X7_bitsOf ml_X7_235 ⟨Nat.le_of_ble_eq_true rfl, Nat.le_of_ble_eq_true rfl⟩ rfl (Nat.le_of_ble_eq_true rfl) ⟨rfl, rfl⟩ (c_X7_bitsOf hN) ?_
      refine st_istore (q := 36) (L' := [_, _, _, _, _, _, _, _, _, _, _]) dX7_ask_34 rfl (Nat.le_of_ble_eq_true rfl) rfl ?_
      refine st_bipush (q := 38) dX7_ask_36 rfl bp_m4 ?_
      refine st_istore (q := 40) (L' := [_, _, _, _, _, _, _, _, _, _, _]) dX7_ask_38 rfl (Nat.le_of_ble_eq_true rfl) rfl ?_
      refine st_iconst (q := 41) dX7_ask_40 rfl ic_0 ?_
      refine st_istore (q := 43) (L' := [_, _, _, _, _, _, _, _, _, _, _]) dX7_ask_41 rfl (Nat.le_of_ble_eq_true rfl) rfl ?_
      have lp : ∀ (k i : Nat), i + k = 21 → ∀ (l7 l8 l9 l10 : Option Value), Ev E mX7_ask 43 [some (.ref 70), some (.int (nI j)), some (.int y), some (.int (nI N)), some (.int (askF T dd nh nt j (nI N) i).1), some (.int (askF T dd nh nt j (nI N) i).2), some (.int (nI i)), l7, l8, l9, l10] [] n w (0, 0) (ev_mr (askS Sg T nh nt dd sz (nI j) y) n w0 (QR S0 f0 n)) := by
        intro k
        induction k with
        | zero =>
          intro i hi l7 l8 l9 l10
          obtain rfl : 21 = i := by omega
          refine st_iload (q := 45) dX7_ask_43 rfl rfl ?_
          refine st_bipush (q := 47) dX7_ask_45 rfl bp_20 ?_
          refine st_icmp_gt (q := 50) (tgt := 201) dX7_ask_47 rfl rfl (fun c_47 => ?_) (fun c_47 => False.elim (c_47 (by decide)))
          refine st_iload (q := 203) dX7_ask_201 rfl rfl ?_
          refine st_bipush (q := 205) dX7_ask_203 rfl bp_m4 ?_
          refine st_icmp_eq (q := 208) (tgt := 212) dX7_ask_205 rfl rfl (fun c_205 => ?_) (fun c_205 => ?_)
          · refine st_iload (q := 214) dX7_ask_212 rfl rfl ?_
            refine st_goto (q := 219) dX7_ask_214 rfl ?_
            refine st_ireturn dX7_ask_219 rfl ?_
            refine ⟨?_, rfl, ⟨_, _, hM, hA⟩, hF⟩
            have ha9 : askS Sg T nh nt dd sz (nI j) y = bwF (askF T dd nh nt j (nI N) 21) y := by rw [askS, if_pos h1, if_pos h2, hjc, eR]
            rw [ha9, bwF]
            first
              | rw [if_pos c_205]
              | rw [if_neg c_205, if_pos c_209]
              | rw [if_neg c_205, if_neg c_209]
          · refine st_iload_n (q := 209) dX7_ask_208 rfl rfl rfl ?_
            refine st_if_ne (q := 212) (tgt := 217) dX7_ask_209 rfl rfl (fun c_209 => ?_) (fun c_209 => ?_)
            · refine st_iload (q := 219) dX7_ask_217 rfl rfl ?_
              refine st_ireturn dX7_ask_219 rfl ?_
              refine ⟨?_, rfl, ⟨_, _, hM, hA⟩, hF⟩
              have ha9 : askS Sg T nh nt dd sz (nI j) y = bwF (askF T dd nh nt j (nI N) 21) y := by rw [askS, if_pos h1, if_pos h2, hjc, eR]
              rw [ha9, bwF]
              first
                | rw [if_pos c_205]
                | rw [if_neg c_205, if_pos c_209]
                | rw [if_neg c_205, if_neg c_209]
            · refine st_iload (q := 214) dX7_ask_212 rfl rfl ?_
              refine st_goto (q := 219) dX7_ask_214 rfl ?_
              refine st_ireturn dX7_ask_219 rfl ?_
              refine ⟨?_, rfl, ⟨_, _, hM, hA⟩, hF⟩
              have ha9 : askS Sg T nh nt dd sz (nI j) y = bwF (askF T dd nh nt j (nI N) 21) y := by rw [askS, if_pos h1, if_pos h2, hjc, eR]
              rw [ha9, bwF]
              first
                | rw [if_pos c_205]
                | rw [if_neg c_205, if_pos c_209]
                | rw [if_neg c_205, if_neg c_209]
        | succ k ih =>
          intro i hi l7 l8 l9 l10
          refine st_iload (q := 45) dX7_ask_43 rfl rfl ?_
          refine st_bipush (q := 47) dX7_ask_45 rfl bp_20 ?_
          refine st_icmp_gt (q := 50) (tgt := 201) dX7_ask_47 rfl rfl (fun c_47 => False.elim (absurd c_47 (nI_nlt (a := 20) (b := i) (by omega) (by omega)))) (fun c_47 => ?_)
          refine st_iconst (q := 51) dX7_ask_50 rfl ic_0 ?_
          refine st_istore (q := 53) (L' := [_, _, _, _, _, _, _, _, _, _, _]) dX7_ask_51 rfl (Nat.le_of_ble_eq_true rfl) rfl ?_
          refine st_iconst (q := 54) dX7_ask_53 rfl ic_0 ?_
          refine st_istore (q := 56) (L' := [_, _, _, _, _, _, _, _, _, _, _]) dX7_ask_54 rfl (Nat.le_of_ble_eq_true rfl) rfl ?_
          have lpa : ∀ (k2 a : Nat), a + k2 = 31 → ∀ (l9 l10 : Option Value), Ev E mX7_ask 56 [some (.ref 70), some (.int (nI j)), some (.int y), some (.int (nI N)), some (.int (askF T dd nh nt j (nI N) i).1), some (.int (askF T dd nh nt j (nI N) i).2), some (.int (nI i)), some (.int (nI (kmx (gAk (fun v => dysT (tup T 2 j (nI v)) dd nh nt i 17 0) (nI N)) a))), some (.int (nI a)), l9, l10] [] n w (0, 0) (ev_mr (askS Sg T nh nt dd sz (nI j) y) n w0 (QR S0 f0 n)) := by
            intro k2
            induction k2 with
            | zero =>
              intro a hi2 l9 l10
              obtain rfl : 31 = a := by omega
              refine st_iload (q := 58) dX7_ask_56 rfl rfl ?_
              refine st_bipush (q := 60) dX7_ask_58 rfl bp_30 ?_
              refine st_icmp_gt (q := 63) (tgt := 163) dX7_ask_60 rfl rfl (fun c_60 => ?_) (fun c_60 => False.elim (c_60 (by decide)))
              rw [← lw_ask (T := T) (dd := dd) (nh := nh) (nt := nt) (j := j) (op := nI N) (show i < 21 from by omega)]
              refine st_iload (q := 165) dX7_ask_163 rfl rfl ?_
              refine st_iload (q := 167) dX7_ask_165 rfl rfl ?_
              refine st_icmp_ge (q := 170) (tgt := 175) dX7_ask_167 rfl rfl (fun c_167 => ?_) (fun c_167 => ?_)
              · refine st_iload (q := 177) dX7_ask_175 rfl rfl ?_
                refine st_istore (q := 179) (L' := [_, _, _, _, _, _, _, _, _, _, _]) dX7_ask_177 rfl (Nat.le_of_ble_eq_true rfl) rfl ?_
                refine st_iload (q := 181) dX7_ask_179 rfl rfl ?_
                refine st_iload (q := 183) dX7_ask_181 rfl rfl ?_
                refine st_icmp_ge (q := 186) (tgt := 191) dX7_ask_183 rfl rfl (fun c_183 => ?_) (fun c_183 => ?_)
                · refine st_iload (q := 193) dX7_ask_191 rfl rfl ?_
                  refine st_istore (q := 195) (L' := [_, _, _, _, _, _, _, _, _, _, _]) dX7_ask_193 rfl (Nat.le_of_ble_eq_true rfl) rfl ?_
                  refine st_iinc (q := 198) (L' := [_, _, _, _, _, _, _, _, _, _, _]) dX7_ask_195 rfl rfl (nI_succ _).symm (Nat.le_of_ble_eq_true rfl) rfl ?_
                  refine st_goto (q := 43) dX7_ask_198 rfl ?_
                  have ih9 := ih (i + 1) (by omega)
                  first
                    | exact absurd c_167 c_183
                    | exact absurd c_183 c_167
                    | (rw [show askF T dd nh nt j (nI N) (i + 1) = askF T dd nh nt j (nI N) i from mnF_k rfl c_167] at ih9; exact ih9 _ _ _ _)
                    | (rw [show askF T dd nh nt j (nI N) (i + 1) = (lwF (fuT T dd nh nt j) (nI N) i 31 31, nI i) from mnF_y rfl c_167] at ih9; exact ih9 _ _ _ _)
                · refine st_iload (q := 188) dX7_ask_186 rfl rfl ?_
                  refine st_goto (q := 193) dX7_ask_188 rfl ?_
                  refine st_istore (q := 195) (L' := [_, _, _, _, _, _, _, _, _, _, _]) dX7_ask_193 rfl (Nat.le_of_ble_eq_true rfl) rfl ?_
                  refine st_iinc (q := 198) (L' := [_, _, _, _, _, _, _, _, _, _, _]) dX7_ask_195 rfl rfl (nI_succ _).symm (Nat.le_of_ble_eq_true rfl) rfl ?_
                  refine st_goto (q := 43) dX7_ask_198 rfl ?_
                  have ih9 := ih (i + 1) (by omega)
                  first
                    | exact absurd c_167 c_183
                    | exact absurd c_183 c_167
                    | (rw [show askF T dd nh nt j (nI N) (i + 1) = askF T dd nh nt j (nI N) i from mnF_k rfl c_167] at ih9; exact ih9 _ _ _ _)
                    | (rw [show askF T dd nh nt j (nI N) (i + 1) = (lwF (fuT T dd nh nt j) (nI N) i 31 31, nI i) from mnF_y rfl c_167] at ih9; exact ih9 _ _ _ _)
              · refine st_iload (q := 172) dX7_ask_170 rfl rfl ?_
                refine st_goto (q := 177) dX7_ask_172 rfl ?_
                refine st_istore (q := 179) (L' := [_, _, _, _, _, _, _, _, _, _, _]) dX7_ask_177 rfl (Nat.le_of_ble_eq_true rfl) rfl ?_
                refine st_iload (q := 181) dX7_ask_179 rfl rfl ?_
                refine st_iload (q := 183) dX7_ask_181 rfl rfl ?_
                refine st_icmp_ge (q := 186) (tgt := 191) dX7_ask_183 rfl rfl (fun c_183 => ?_) (fun c_183 => ?_)
                · refine st_iload (q := 193) dX7_ask_191 rfl rfl ?_
                  refine st_istore (q := 195) (L' := [_, _, _, _, _, _, _, _, _, _, _]) dX7_ask_193 rfl (Nat.le_of_ble_eq_true rfl) rfl ?_
                  refine st_iinc (q := 198) (L' := [_, _, _, _, _, _, _, _, _, _, _]) dX7_ask_195 rfl rfl (nI_succ _).symm (Nat.le_of_ble_eq_true rfl) rfl ?_
                  refine st_goto (q := 43) dX7_ask_198 rfl ?_
                  have ih9 := ih (i + 1) (by omega)
                  first
                    | exact absurd c_167 c_183
                    | exact absurd c_183 c_167
                    | (rw [show askF T dd nh nt j (nI N) (i + 1) = askF T dd nh nt j (nI N) i from mnF_k rfl c_167] at ih9; exact ih9 _ _ _ _)
                    | (rw [show askF T dd nh nt j (nI N) (i + 1) = (lwF (fuT T dd nh nt j) (nI N) i 31 31, nI i) from mnF_y rfl c_167] at ih9; exact ih9 _ _ _ _)
                · refine st_iload (q := 188) dX7_ask_186 rfl rfl ?_
                  refine st_goto (q := 193) dX7_ask_188 rfl ?_
                  refine st_istore (q := 195) (L' := [_, _, _, _, _, _, _, _, _, _, _]) dX7_ask_193 rfl (Nat.le_of_ble_eq_true rfl) rfl ?_
                  refine st_iinc (q := 198) (L' := [_, _, _, _, _, _, _, _, _, _, _]) dX7_ask_195 rfl rfl (nI_succ _).symm (Nat.le_of_ble_eq_true rfl) rfl ?_
                  refine st_goto (q := 43) dX7_ask_198 rfl ?_
                  have ih9 := ih (i + 1) (by omega)
                  first
                    | exact absurd c_167 c_183
                    | exact absurd c_183 c_167
                    | (rw [show askF T dd nh nt j (nI N) (i + 1) = askF T dd nh nt j (nI N) i from mnF_k rfl c_167] at ih9; exact ih9 _ _ _ _)
                    | (rw [show askF T dd nh nt j (nI N) (i + 1) = (lwF (fuT T dd nh nt j) (nI N) i 31 31, nI i) from mnF_y rfl c_167] at ih9; exact ih9 _ _ _ _)
            | succ k2 ih2 =>
              intro a hi2 l9 l10
              refine st_iload (q := 58) dX7_ask_56 rfl rfl ?_
              refine st_bipush (q := 60) dX7_ask_58 rfl bp_30 ?_
              refine st_icmp_gt (q := 63) (tgt := 163) dX7_ask_60 rfl rfl (fun c_60 => False.elim (absurd c_60 (nI_nlt (a := 30) (b := a) (by omega) (by omega)))) (fun c_60 => ?_)
              refine st_iconst (q := 64) dX7_ask_63 rfl ic_0 ?_
              refine st_istore (q := 66) (L' := [_, _, _, _, _, _, _, _, _, _, _]) dX7_ask_64 rfl (Nat.le_of_ble_eq_true rfl) rfl ?_
              refine st_iconst (q := 67) dX7_ask_66 rfl ic_0 ?_
              refine st_istore (q := 69) (L' := [_, _, _, _, _, _, _, _, _, _, _]) dX7_ask_67 rfl (Nat.le_of_ble_eq_true rfl) rfl ?_
              have hga := gA_le (s := (fun v => dysT (tup T 2 j (nI v)) dd nh nt i 17 0)) (op := nI N) (a := a)
              have hka : kmx (gAk (fun v => dysT (tup T 2 j (nI v)) dd nh nt i 17 0) (nI N)) a ≤ 31 := kmx_le a (fun r _ => gA_le)
              have fin : ∀ (al : Nat), al = gAk (fun v => dysT (tup T 2 j (nI v)) dd nh nt i 17 0) (nI N) a → ∀ (lb : Option Value), Ev E mX7_ask 141 [some (.ref 70), some (.int (nI j)), some (.int y), some (.int (nI N)), some (.int (askF T dd nh nt j (nI N) i).1), some (.int (askF T dd nh nt j (nI N) i).2), some (.int (nI i)), some (.int (nI (kmx (gAk (fun v => dysT (tup T 2 j (nI v)) dd nh nt i 17 0) (nI N)) a))), some (.int (nI a)), some (.int (nI al)), lb] [] n w (0, 0) (ev_mr (askS Sg T nh nt dd sz (nI j) y) n w0 (QR S0 f0 n)) := by
                intro al hal lb
                refine st_iload (q := 143) dX7_ask_141 rfl rfl ?_
                refine st_iload (q := 145) dX7_ask_143 rfl rfl ?_
                refine st_icmp_le (q := 148) (tgt := 153) dX7_ask_145 rfl rfl (fun c_145 => ?_) (fun c_145 => ?_)
                · refine st_iload (q := 155) dX7_ask_153 rfl rfl ?_
                  refine st_istore (q := 157) (L' := [_, _, _, _, _, _, _, _, _, _, _]) dX7_ask_155 rfl (Nat.le_of_ble_eq_true rfl) rfl ?_
                  refine st_iinc (q := 160) (L' := [_, _, _, _, _, _, _, _, _, _, _]) dX7_ask_157 rfl rfl (nI_succ _).symm (Nat.le_of_ble_eq_true rfl) rfl ?_
                  refine st_goto (q := 56) dX7_ask_160 rfl ?_
                  have ih9 := ih2 (a + 1) (by omega)
                  first
                    | (rw [kmx, if_neg (fun z => absurd ((nI_leiff (by omega) (by omega)).mp c_145) (by omega))] at ih9; exact ih9 _ _)
                    | (rw [kmx, if_pos (show kmx (gAk (fun v => dysT (tup T 2 j (nI v)) dd nh nt i 17 0) (nI N)) a < gAk (fun v => dysT (tup T 2 j (nI v)) dd nh nt i 17 0) (nI N) a from Nat.lt_of_not_le (fun z => c_145 ((nI_leiff (by omega) (by omega)).mpr (by omega))))] at ih9; rw [hal]; exact ih9 _ _)
                · refine st_iload (q := 150) dX7_ask_148 rfl rfl ?_
                  refine st_goto (q := 155) dX7_ask_150 rfl ?_
                  refine st_istore (q := 157) (L' := [_, _, _, _, _, _, _, _, _, _, _]) dX7_ask_155 rfl (Nat.le_of_ble_eq_true rfl) rfl ?_
                  refine st_iinc (q := 160) (L' := [_, _, _, _, _, _, _, _, _, _, _]) dX7_ask_157 rfl rfl (nI_succ _).symm (Nat.le_of_ble_eq_true rfl) rfl ?_
                  refine st_goto (q := 56) dX7_ask_160 rfl ?_
                  have ih9 := ih2 (a + 1) (by omega)
                  first
                    | (rw [kmx, if_neg (fun z => absurd ((nI_leiff (by omega) (by omega)).mp c_145) (by omega))] at ih9; exact ih9 _ _)
                    | (rw [kmx, if_pos (show kmx (gAk (fun v => dysT (tup T 2 j (nI v)) dd nh nt i 17 0) (nI N)) a < gAk (fun v => dysT (tup T 2 j (nI v)) dd nh nt i 17 0) (nI N) a from Nat.lt_of_not_le (fun z => c_145 ((nI_leiff (by omega) (by omega)).mpr (by omega))))] at ih9; rw [hal]; exact ih9 _ _)
              by_cases hb : bt (nI N) a = true
              · have lpb : ∀ (k3 b : Nat), b + k3 = 31 → Ev E mX7_ask 69 [some (.ref 70), some (.int (nI j)), some (.int y), some (.int (nI N)), some (.int (askF T dd nh nt j (nI N) i).1), some (.int (askF T dd nh nt j (nI N) i).2), some (.int (nI i)), some (.int (nI (kmx (gAk (fun v => dysT (tup T 2 j (nI v)) dd nh nt i 17 0) (nI N)) a))), some (.int (nI a)), some (.int (nI (cnN (fun b => bt (nI N) b && decide ((fun v => dysT (tup T 2 j (nI v)) dd nh nt i 17 0) a = (fun v => dysT (tup T 2 j (nI v)) dd nh nt i 17 0) b)) b))), some (.int (nI b))] [] n w (0, 0) (ev_mr (askS Sg T nh nt dd sz (nI j) y) n w0 (QR S0 f0 n)) := by
                  intro k3
                  induction k3 with
                  | zero =>
                    intro b hi3
                    obtain rfl : 31 = b := by omega
                    refine st_iload (q := 71) dX7_ask_69 rfl rfl ?_
                    refine st_bipush (q := 73) dX7_ask_71 rfl bp_30 ?_
                    refine st_icmp_gt (q := 76) (tgt := 141) dX7_ask_73 rfl rfl (fun c_73 => ?_) (fun c_73 => False.elim (c_73 (by decide)))
                    exact fin _ (by rw [gAk, if_pos hb]) _
                  | succ k3 ih3 =>
                    intro b hi3
                    refine st_iload (q := 71) dX7_ask_69 rfl rfl ?_
                    refine st_bipush (q := 73) dX7_ask_71 rfl bp_30 ?_
                    refine st_icmp_gt (q := 76) (tgt := 141) dX7_ask_73 rfl rfl (fun c_73 => False.elim (absurd c_73 (nI_nlt (a := 30) (b := b) (by omega) (by omega)))) (fun c_73 => ?_)
                    refine st_iload_n (q := 77) dX7_ask_76 rfl rfl rfl ?_
                    refine st_iload (q := 79) dX7_ask_77 rfl rfl ?_
                    refine st_ishr (q := 80) dX7_ask_79 rfl ?_
                    refine st_iconst (q := 81) dX7_ask_80 rfl ic_1 ?_
                    refine st_iand (q := 82) dX7_ask_81 rfl ?_
                    refine st_iconst (q := 83) dX7_ask_82 rfl ic_1 ?_
                    refine st_icmp_ne (q := 86) (tgt := 141) dX7_ask_83 rfl rfl (fun c_83 => False.elim (c_83 ((sh1_1 (nI N) (by omega)).mpr hb))) (fun c_83 => ?_)
                    refine st_iload (q := 88) dX7_ask_86 rfl rfl ?_
                    refine st_iload_n (q := 89) dX7_ask_88 rfl rfl rfl ?_
                    refine st_iload (q := 91) dX7_ask_89 rfl rfl ?_
                    refine st_ishr (q := 92) dX7_ask_91 rfl ?_
                    refine st_iconst (q := 93) dX7_ask_92 rfl ic_1 ?_
                    refine st_iand (q := 94) dX7_ask_93 rfl ?_
                    refine st_iconst (q := 95) dX7_ask_94 rfl ic_1 ?_
                    refine st_icmp_ne (q := 98) (tgt := 131) dX7_ask_95 rfl rfl (fun c_95 => ?_) (fun c_95 => ?_)
                    · refine st_iconst (q := 132) dX7_ask_131 rfl ic_0 ?_
                      refine st_iadd (q := 133) dX7_ask_132 rfl ?_
                      first
                        | rw [Int32.add_zero]
                        | rw [← nI_succ]
                      refine st_istore (q := 135) (L' := [_, _, _, _, _, _, _, _, _, _, _]) dX7_ask_133 rfl (Nat.le_of_ble_eq_true rfl) rfl ?_
                      refine st_iinc (q := 138) (L' := [_, _, _, _, _, _, _, _, _, _, _]) dX7_ask_135 rfl rfl (nI_succ _).symm (Nat.le_of_ble_eq_true rfl) rfl ?_
                      refine st_goto (q := 69) dX7_ask_138 rfl ?_
                      have ih9 := ih3 (b + 1) (by omega)
                      first
                        | (rw [cnN, if_neg (by rw [show bt (nI N) b = false from by rw [← Bool.not_eq_true]; exact fun z => c_95 ((sh1_1 (nI N) (by omega)).mpr z)]; simp)] at ih9; exact ih9)
                        | (rw [cnN, if_pos (by rw [(sh1_1 (nI N) (by omega)).mp c_95, Bool.true_and]; exact decide_eq_true c_124)] at ih9; exact ih9)
                        | (rw [cnN, if_neg (by rw [(sh1_1 (nI N) (by omega)).mp c_95, Bool.true_and]; simpa using c_124)] at ih9; exact ih9)
                    · refine st_aload_n (q := 99) dX7_ask_98 rfl rfl rfl ?_
                      refine g_getA (q := 102) dX7_ask_99 rfl fl_X7_28.g hM rfl ?_
                      refine st_bipush (q := 104) dX7_ask_102 rfl bp_21 ?_
                      refine st_iload (q := 106) dX7_ask_104 rfl rfl ?_
                      refine st_imul (q := 107) dX7_ask_106 rfl ?_
                      refine st_iload (q := 109) dX7_ask_107 rfl rfl ?_
                      refine st_iadd (q := 110) dX7_ask_109 rfl ?_
                      refine m_ald (q := 111) dX7_ask_110 rfl hM (i := 23) (by decide) rfl (by exact ixm (a := 21) (m := a) (c := i) (by omega) (by decide)) ?_
                      refine st_aload_n (q := 112) dX7_ask_111 rfl rfl rfl ?_
                      refine g_getA (q := 115) dX7_ask_112 rfl fl_X7_28.g hM rfl ?_
                      refine st_bipush (q := 117) dX7_ask_115 rfl bp_21 ?_
                      refine st_iload (q := 119) dX7_ask_117 rfl rfl ?_
                      refine st_imul (q := 120) dX7_ask_119 rfl ?_
                      refine st_iload (q := 122) dX7_ask_120 rfl rfl ?_
                      refine st_iadd (q := 123) dX7_ask_122 rfl ?_
                      refine m_ald (q := 124) dX7_ask_123 rfl hM (i := 23) (by decide) rfl (by exact ixm (a := 21) (m := b) (c := i) (by omega) (by decide)) ?_
                      rw [hsb a (by omega) i (by omega), hsb b (by omega) i (by omega)]
                      refine st_icmp_ne (q := 127) (tgt := 131) dX7_ask_124 rfl rfl (fun c_124 => ?_) (fun c_124 => ?_)
                      · refine st_iconst (q := 132) dX7_ask_131 rfl ic_0 ?_
                        refine st_iadd (q := 133) dX7_ask_132 rfl ?_
                        first
                          | rw [Int32.add_zero]
                          | rw [← nI_succ]
                        refine st_istore (q := 135) (L' := [_, _, _, _, _, _, _, _, _, _, _]) dX7_ask_133 rfl (Nat.le_of_ble_eq_true rfl) rfl ?_
                        refine st_iinc (q := 138) (L' := [_, _, _, _, _, _, _, _, _, _, _]) dX7_ask_135 rfl rfl (nI_succ _).symm (Nat.le_of_ble_eq_true rfl) rfl ?_
                        refine st_goto (q := 69) dX7_ask_138 rfl ?_
                        have ih9 := ih3 (b + 1) (by omega)
                        first
                          | (rw [cnN, if_neg (by rw [show bt (nI N) b = false from by rw [← Bool.not_eq_true]; exact fun z => c_95 ((sh1_1 (nI N) (by omega)).mpr z)]; simp)] at ih9; exact ih9)
                          | (rw [cnN, if_pos (by rw [(sh1_1 (nI N) (by omega)).mp c_95, Bool.true_and]; exact decide_eq_true c_124)] at ih9; exact ih9)
                          | (rw [cnN, if_neg (by rw [(sh1_1 (nI N) (by omega)).mp c_95, Bool.true_and]; simpa using c_124)] at ih9; exact ih9)
                      · refine st_iconst (q := 128) dX7_ask_127 rfl ic_1 ?_
                        refine st_goto (q := 132) dX7_ask_128 rfl ?_
                        refine st_iadd (q := 133) dX7_ask_132 rfl ?_
                        first
                          | rw [Int32.add_zero]
                          | rw [← nI_succ]
                        refine st_istore (q := 135) (L' := [_, _, _, _, _, _, _, _, _, _, _]) dX7_ask_133 rfl (Nat.le_of_ble_eq_true rfl) rfl ?_
                        refine st_iinc (q := 138) (L' := [_, _, _, _, _, _, _, _, _, _, _]) dX7_ask_135 rfl rfl (nI_succ _).symm (Nat.le_of_ble_eq_true rfl) rfl ?_
                        refine st_goto (q := 69) dX7_ask_138 rfl ?_
                        have ih9 := ih3 (b + 1) (by omega)
                        first
                          | (rw [cnN, if_neg (by rw [show bt (nI N) b = false from by rw [← Bool.not_eq_true]; exact fun z => c_95 ((sh1_1 (nI N) (by omega)).mpr z)]; simp)] at ih9; exact ih9)
                          | (rw [cnN, if_pos (by rw [(sh1_1 (nI N) (by omega)).mp c_95, Bool.true_and]; exact decide_eq_true c_124)] at ih9; exact ih9)
                          | (rw [cnN, if_neg (by rw [(sh1_1 (nI N) (by omega)).mp c_95, Bool.true_and]; simpa using c_124)] at ih9; exact ih9)
                exact lpb 31 0 (by omega)
              · refine st_iload (q := 71) dX7_ask_69 rfl rfl ?_
                refine st_bipush (q := 73) dX7_ask_71 rfl bp_30 ?_
                refine st_icmp_gt (q := 76) (tgt := 141) dX7_ask_73 rfl rfl (fun c_73 => False.elim (absurd c_73 (by decide))) (fun c_73 => ?_)
                refine st_iload_n (q := 77) dX7_ask_76 rfl rfl rfl ?_
                refine st_iload (q := 79) dX7_ask_77 rfl rfl ?_
                refine st_ishr (q := 80) dX7_ask_79 rfl ?_
                refine st_iconst (q := 81) dX7_ask_80 rfl ic_1 ?_
                refine st_iand (q := 82) dX7_ask_81 rfl ?_
                refine st_iconst (q := 83) dX7_ask_82 rfl ic_1 ?_
                refine st_icmp_ne (q := 86) (tgt := 141) dX7_ask_83 rfl rfl (fun c_83 => ?_) (fun c_83 => False.elim (hb ((sh1_1 (nI N) (by omega)).mp c_83)))
                exact fin 0 (by rw [gAk, if_neg hb]) _
          exact lpa 31 0 (by omega) _ _
      have lp0 := lp 21 0 (by omega) none none none none
      rw [show (askF T dd nh nt j (nI N) 0).1 = nI (cntN N 31) from bc_31 hN] at lp0
      exact lp0
    · refine st_iconst (q := 19) dX7_ask_18 rfl ic_m1 ?_
      refine st_ireturn dX7_ask_19 rfl ?_
      first
        | exact ⟨by rw [askS, if_neg (by rw [← hG.2.1, zI_0.mp c_5]; decide)], rfl, ⟨_, _, hM, hA⟩, hF⟩
        | exact ⟨by rw [askS, if_pos (by rw [← hG.2.1]; exact zI_1.mp c_5), if_neg (by rw [zI_0.mp c_15]; decide)], rfl, ⟨_, _, hM, hA⟩, hF⟩
theorem RP.w67u {T : gT} {f : Nat → Int32} {p nh nt : Nat} {v : Int32} (h : RP T f p nh nt) : RP T (upd f (p + 67) v) p nh nt := by
  have hnh := h.hnh
  have hnt := h.hnt
  have e : ∀ a i, a + i < 71 → a + i ≠ 67 → upd f (p + 67) v (p + a + i) = f (p + a + i) := fun a i _ h2 => pk_un (by omega)
  refine ⟨hnh, hnt, h.e0, h.e6, fun k hk => ?_, fun k hk => ?_, fun k hk => ?_, fun k hk => ?_, fun k hk => ?_, fun d hd => ?_, ?_, h.lv.2, ?_, ?_, h.so.2⟩
  · have := h.hs hk
    unfold RH at *
    rw [show upd f (p + 67) v (p + k) = f (p + k) from pk_un (by omega), e 4 k (by omega) (by omega), e 8 k (by omega) (by omega), e 12 k (by omega) (by omega), e 16 k (by omega) (by omega)]
    exact this
  · have := h.is hk
    unfold RI at *
    rw [e 20 k (by omega) (by omega), e 28 k (by omega) (by omega), e 36 k (by omega) (by omega), e 44 k (by omega) (by omega), e 52 k (by omega) (by omega)]
    exact this
  · rw [h.b5 k hk]
    by_cases z : k < nh
    · simp only [e 16 k (by omega) (by omega)]
    · simp [z]
  · rw [h.b11 k hk]
    by_cases z : k < nt
    · simp only [e 52 k (by omega) (by omega)]
    · simp [z]
  · rw [h.b12 k hk]
    by_cases z : k < nt
    · simp only [e 52 k (by omega) (by omega)]
    · simp [z]
  · rw [e 60 d (by omega) (by omega)]; exact h.ri hd
  · rw [pk_un (by omega)]; exact h.lv.1
  · rw [pk_un (by omega)]; exact h.da
  · rw [pk_un (by omega)]; exact h.so.1
theorem b_32767 : ∀ i, i < 32 → bt 32767 i = decide (i < 15) := by decide +kernel
theorem gt_eq (x : Int32) : (x >>> ((16 : Int32) &&& 31)) &&& 32767 = gtI x := by
  refine b_ext (fun i hi => ?_)
  unfold gtI
  have e1 := b_sshr 16 (by decide) x hi
  have e2 := b_ushr 16 (by decide) x i
  rw [show (16 : Int32) = nI 16 from rfl, b_and, b_and, e1, e2, b_32767 i hi]
  by_cases z : i < 15
  · rw [if_pos (by omega)]
  · simp [z]
set_option maxRecDepth 100000 in
set_option maxHeartbeats 4000000 in
theorem c_X7_drift {E : ev_E} {n : Nat} {w : ev_W} {S0 S : gT} {f0 f : Nat → Int32} {w0 : ev_W} (hF : Fr 70 82 w0 w) (hM : MR S f 70 n w) (hA : QA S0 S f0 f) {T : gT} {nh nt dd : Nat} (hG : GQ S f T nh nt dd) {s x y : Int32} : Ct E mX7_drift [.ref 70, .int s, .int x, .int y] n w (ev_mr (driftS T nh nt s x y) n w0 (QR S0 f0 n)) := by
  refine Ct.of 3 (by decide) (Nat.le_of_ble_eq_true rfl) rfl ?_
  have hd9 := hG.2.2.2
  refine st_iload_n (q := 1) dX7_drift_0 rfl rfl rfl ?_
  refine st_i2l (q := 2) dX7_drift_1 rfl ?_
  refine st_lconst (q := 3) dX7_drift_2 rfl lc_1 ?_
  refine st_ldc2 (q := 6) dX7_drift_3 rfl cn_X7_206 ?_
  refine sp_S3 (q := 9) (M' := mX7_in) dX7_drift_6 rfl ok_X7_in mk_X7_in ml_X7_46 ⟨Nat.le_of_ble_eq_true rfl, Nat.le_of_ble_eq_true rfl⟩ rfl (Nat.le_of_ble_eq_true rfl) ⟨rfl, rfl⟩ (c_X7_inI (a := 1) (c := 60) (by decide) (by decide)) ?_
  refine st_if_eq (q := 12) (tgt := 22) dX7_drift_9 rfl rfl (fun c_9 => ?_) (fun c_9 => ?_)
  · refine st_iconst (q := 23) dX7_drift_22 rfl ic_m1 ?_
    refine st_ireturn dX7_drift_23 rfl ?_
    first
      | exact ⟨by rw [driftS, if_neg (by rw [zI_0.mp c_9]; decide)], rfl, ⟨_, _, hM, hA⟩, hF⟩
      | exact ⟨by rw [driftS, if_pos (zI_1.mp c_9), if_neg (by rw [zI_0.mp c_19]; decide)], rfl, ⟨_, _, hM, hA⟩, hF⟩
  · refine st_iload_n (q := 13) dX7_drift_12 rfl rfl rfl ?_
    refine st_i2l (q := 14) dX7_drift_13 rfl ?_
    refine st_lconst (q := 15) dX7_drift_14 rfl lc_0 ?_
    refine st_lconst (q := 16) dX7_drift_15 rfl lc_1 ?_
    refine sp_S3 (q := 19) (M' := mX7_in) dX7_drift_16 rfl ok_X7_in mk_X7_in ml_X7_46 ⟨Nat.le_of_ble_eq_true rfl, Nat.le_of_ble_eq_true rfl⟩ rfl (Nat.le_of_ble_eq_true rfl) ⟨rfl, rfl⟩ (c_X7_inI (a := 0) (c := 1) (by decide) (by decide)) ?_
    refine st_if_ne (q := 22) (tgt := 24) dX7_drift_19 rfl rfl (fun c_19 => ?_) (fun c_19 => ?_)
    · have h1 : inI x 1 60 = true := zI_1.mp c_9
      have h2 : inI y 0 1 = true := zI_1.mp c_19
      obtain ⟨m, hm, rfl⟩ := inI_k (k := 60) (inI_1 h1) (by decide)
      have hmc : (nI m).toNatClampNeg = m := nI_clamp (by omega)
      have hnh4 := hG.1.1.hnh
      refine st_aload_n (q := 25) dX7_drift_24 rfl rfl rfl ?_
      refine m_get (q := 28) dX7_drift_25 rfl fl_X7_136.g hM (by decide) rfl ?_
      rw [hG.2.1]
      refine st_if_ne (q := 31) (tgt := 34) dX7_drift_28 rfl rfl (fun c_28 => ?_) (fun c_28 => ?_)
      · have hnz : ¬ nh = 0 := fun z => c_28 (by rw [z]; rfl)
        refine st_aload_n (q := 35) dX7_drift_34 rfl rfl rfl ?_
        refine st_iconst (q := 36) dX7_drift_35 rfl ic_0 ?_
        refine st_sipush (q := 39) dX7_drift_36 rfl sp_284 ?_
        refine sm_V2 (q := 42) (M' := mX7_copies) dX7_drift_39 rfl ok_X7_copies mk_X7_copies ml_X7_200 ⟨Nat.le_of_ble_eq_true rfl, Nat.le_of_ble_eq_true rfl⟩ rfl (Nat.le_of_ble_eq_true rfl) (g_rv hM rfl) ⟨rfl, rfl⟩ (c_copyT hM hG (c := 284) (by decide) (by decide)) ?_
        intro _ n w h9 _
        obtain ⟨f, rfl, rfl, hM, hA_, hR, hF_⟩ := h9
        replace hG := hG.qa hA_
        replace hA := hA.tr hA_
        replace hF := Fr.tr hF hF_
        refine st_iload_n (q := 43) dX7_drift_42 rfl rfl rfl ?_
        refine st_istore (q := 45) (L' := [_, _, _, _, _, _, _]) dX7_drift_43 rfl (Nat.le_of_ble_eq_true rfl) rfl ?_
        refine st_iconst (q := 46) dX7_drift_45 rfl ic_0 ?_
        refine st_istore (q := 48) (L' := [_, _, _, _, _, _, _]) dX7_drift_46 rfl (Nat.le_of_ble_eq_true rfl) rfl ?_
        have lp : ∀ (k i : Nat), i + k = m → ∀ (w1 : ev_W) (S1 : gT) (f1 : Nat → Int32) (l6 : Option Value), MR S1 f1 70 n w1 → QA S0 S1 f0 f1 → GQ S1 f1 T nh nt dd → Fr 70 82 w0 w1 → RP (dfT T nh nt s i) f1 284 nh nt → Ev E mX7_drift 48 [some (.ref 70), some (.int s), some (.int (nI m)), some (.int y), some (.int (sdF s i)), some (.int (nI i)), l6] [] n w1 (0, 0) (ev_mr (driftS T nh nt s (nI m) y) n w0 (QR S0 f0 n)) := by
          clear hM hA hG hF hR
          intro k
          induction k with
          | zero =>
            intro i hi w S f l6 hM hA hG hF hR
            obtain rfl : m = i := by omega
            refine st_iload (q := 50) dX7_drift_48 rfl rfl ?_
            refine st_iload_n (q := 51) dX7_drift_50 rfl rfl rfl ?_
            refine st_icmp_ge (q := 54) (tgt := 114) dX7_drift_51 rfl rfl (fun c_51 => ?_) (fun c_51 => False.elim (c_51 (Int32.le_refl _)))
            refine st_iload_n (q := 115) dX7_drift_114 rfl rfl rfl ?_
            refine st_if_ne (q := 118) (tgt := 137) dX7_drift_115 rfl rfl (fun c_115 => ?_) (fun c_115 => ?_)
            · refine st_aload_n (q := 138) dX7_drift_137 rfl rfl rfl ?_
              refine st_sipush (q := 141) dX7_drift_138 rfl sp_284 ?_
              refine sp_V1 (q := 144) (M' := mX7_afloatOn) dX7_drift_141 rfl ok_X7_afloatOn mk_X7_afloatOn ml_X7_161 ⟨Nat.le_of_ble_eq_true rfl, Nat.le_of_ble_eq_true rfl⟩ rfl (Nat.le_of_ble_eq_true rfl) (g_rv hM rfl) ⟨rfl, rfl⟩ (c_X7_afloatOn hM (p := 284) (by decide) hG.2.1 hG.1.1.hnh) ?_
              refine st_ireturn dX7_drift_144 rfl ?_
              refine ⟨?_, rfl, ⟨_, _, hM, hA⟩, hF⟩
              have e1 : dfT T nh nt s m 17 0 = f 354 := hR.so.1
              have e2 := hG.1.1.so.1
              rw [Nat.zero_add] at e2
              rw [driftS, if_pos h1, if_pos h2, if_neg hnz, hmc]
              first
                | rw [if_pos c_115, e1, e2]
                | rw [if_neg c_115, hR.af]
            · refine st_aload_n (q := 119) dX7_drift_118 rfl rfl rfl ?_
              refine g_getA (q := 122) dX7_drift_119 rfl fl_X7_7.g hM rfl ?_
              refine st_sipush (q := 125) dX7_drift_122 rfl sp_354 ?_
              refine m_sld (q := 126) dX7_drift_125 rfl hM (by exact ev_ix_nI (j := 354) (by decide) (by decide)) ?_
              refine st_aload_n (q := 127) dX7_drift_126 rfl rfl rfl ?_
              refine g_getA (q := 130) dX7_drift_127 rfl fl_X7_7.g hM rfl ?_
              refine st_bipush (q := 132) dX7_drift_130 rfl bp_70 ?_
              refine m_sld (q := 133) dX7_drift_132 rfl hM (by exact ev_ix_nI (j := 70) (by decide) (by decide)) ?_
              refine st_isub (q := 134) dX7_drift_133 rfl ?_
              refine st_goto (q := 144) dX7_drift_134 rfl ?_
              refine st_ireturn dX7_drift_144 rfl ?_
              refine ⟨?_, rfl, ⟨_, _, hM, hA⟩, hF⟩
              have e1 : dfT T nh nt s m 17 0 = f 354 := hR.so.1
              have e2 := hG.1.1.so.1
              rw [Nat.zero_add] at e2
              rw [driftS, if_pos h1, if_pos h2, if_neg hnz, hmc]
              first
                | rw [if_pos c_115, e1, e2]
                | rw [if_neg c_115, hR.af]
          | succ k ih =>
            intro i hi w S f l6 hM hA hG hF hR
            refine st_iload (q := 50) dX7_drift_48 rfl rfl ?_
            refine st_iload_n (q := 51) dX7_drift_50 rfl rfl rfl ?_
            refine st_icmp_ge (q := 54) (tgt := 114) dX7_drift_51 rfl rfl (fun c_51 => False.elim (absurd c_51 (nI_ge (a := i) (b := m) (by omega) (by omega)))) (fun c_51 => ?_)
            refine st_iload (q := 56) dX7_drift_54 rfl rfl ?_
            refine st_ldc (q := 58) dX7_drift_56 rfl cn_X7_238 ?_
            refine st_imul (q := 59) dX7_drift_58 rfl ?_
            refine st_sipush (q := 62) dX7_drift_59 rfl sp_12345 ?_
            refine st_iadd (q := 63) dX7_drift_62 rfl ?_
            refine st_istore (q := 65) (L' := [_, _, _, _, _, _, _]) dX7_drift_63 rfl (Nat.le_of_ble_eq_true rfl) rfl ?_
            refine st_iload (q := 67) dX7_drift_65 rfl rfl ?_
            refine st_bipush (q := 69) dX7_drift_67 rfl bp_16 ?_
            refine st_ishr (q := 70) dX7_drift_69 rfl ?_
            refine st_sipush (q := 73) dX7_drift_70 rfl sp_32767 ?_
            refine st_iand (q := 74) dX7_drift_73 rfl ?_
            rw [gt_eq]
            refine st_istore (q := 76) (L' := [_, _, _, _, _, _, _]) dX7_drift_74 rfl (Nat.le_of_ble_eq_true rfl) rfl ?_
            refine st_aload_n (q := 77) dX7_drift_76 rfl rfl rfl ?_
            refine g_getA (q := 80) dX7_drift_77 rfl fl_X7_7.g hM rfl ?_
            refine st_sipush (q := 83) dX7_drift_80 rfl sp_351 ?_
            refine st_iload (q := 85) dX7_drift_83 rfl rfl ?_
            refine st_bipush (q := 87) dX7_drift_85 rfl bp_16 ?_
            refine st_idiv (q := 88) dX7_drift_87 rfl (by decide) ?_
            refine st_bipush (q := 90) dX7_drift_88 rfl bp_9 ?_
            refine st_irem (q := 91) dX7_drift_90 rfl (by decide) ?_
            refine st_iconst (q := 92) dX7_drift_91 rfl ic_4 ?_
            refine st_isub (q := 93) dX7_drift_92 rfl ?_
            refine m_sst (q := 94) dX7_drift_93 rfl hM (by exact ev_ix_nI (j := 351) (by decide) (by decide)) (fun w hM hF_ => ?_)
            replace hF := Fr.tr hF hF_
            have hA_ : QA S S f (upd f 351 (rmJ (gtI (sdF s (i + 1)) / 16) 9 - 4)) := QA.up (by decide)
            replace hG := hG.qa hA_
            replace hA := hA.tr hA_
            have hR2 : RP (dfT T nh nt s (i + 1)) (dayM (upd f 351 (rmJ (gtI (sdF s (i + 1)) / 16) 9 - 4)) 284 (rmJ (gtI (sdF s (i + 1))) 9 - 4) nh nt) 284 nh nt := by
              refine RP.day (RP.w67u (p := 284) hR) (by rw [Int32.sub_add_cancel]) ?_
              show _ = upd f 351 (rmJ (gtI (sdF s (i + 1)) / 16) 9 - 4) 351 + 4
              rw [pk_us, Int32.sub_add_cancel]
            refine st_aload_n (q := 95) dX7_drift_94 rfl rfl rfl ?_
            refine st_sipush (q := 98) dX7_drift_95 rfl sp_284 ?_
            refine st_iload (q := 100) dX7_drift_98 rfl rfl ?_
            refine st_bipush (q := 102) dX7_drift_100 rfl bp_9 ?_
            refine st_irem (q := 103) dX7_drift_102 rfl (by decide) ?_
            refine st_iconst (q := 104) dX7_drift_103 rfl ic_4 ?_
            refine st_isub (q := 105) dX7_drift_104 rfl ?_
            refine sm_V2 (q := 108) (M' := mX7_dayOn) dX7_drift_105 rfl ok_X7_dayOn mk_X7_dayOn ml_X7_197 ⟨Nat.le_of_ble_eq_true rfl, Nat.le_of_ble_eq_true rfl⟩ rfl (Nat.le_of_ble_eq_true rfl) (g_rv hM rfl) ⟨rfl, rfl⟩ (c_X7_dayOn hM (p := 284) (by decide) hG.2.2.1 hR.hnt hG.2.1 hR.hnh) ?_
            intro _ n w h9 _
            obtain ⟨rfl, rfl, hM, hF_⟩ := h9
            have hA_ : QA S S (upd f 351 (rmJ (gtI (sdF s (i + 1)) / 16) 9 - 4)) (dayM (upd f 351 (rmJ (gtI (sdF s (i + 1)) / 16) 9 - 4)) 284 (rmJ (gtI (sdF s (i + 1))) 9 - 4) nh nt) := ⟨fun q hq => dayM_n hR.hnh hR.hnt (by unfold inD; omega), fun _ _ _ => rfl⟩
            replace hG := hG.qa hA_
            replace hA := hA.tr hA_
            replace hF := Fr.tr hF hF_
            refine st_iinc (q := 111) (L' := [_, _, _, _, _, _, _]) dX7_drift_108 rfl rfl (nI_succ _).symm (Nat.le_of_ble_eq_true rfl) rfl ?_
            refine st_goto (q := 48) dX7_drift_111 rfl ?_
            exact ih (i + 1) (by omega) w S _ _ hM hA hG hF hR2
        exact lp m 0 (by omega) w S f _ hM hA hG hF hR.1
      · refine st_bipush (q := 33) dX7_drift_31 rfl bp_m2 ?_
        refine st_ireturn dX7_drift_33 rfl ?_
        exact ⟨by rw [driftS, if_pos h1, if_pos h2, if_pos (nI_z (by omega) c_28)], rfl, ⟨_, _, hM, hA⟩, hF⟩
    · refine st_iconst (q := 23) dX7_drift_22 rfl ic_m1 ?_
      refine st_ireturn dX7_drift_23 rfl ?_
      first
        | exact ⟨by rw [driftS, if_neg (by rw [zI_0.mp c_9]; decide)], rfl, ⟨_, _, hM, hA⟩, hF⟩
        | exact ⟨by rw [driftS, if_pos (zI_1.mp c_9), if_neg (by rw [zI_0.mp c_19]; decide)], rfl, ⟨_, _, hM, hA⟩, hF⟩
