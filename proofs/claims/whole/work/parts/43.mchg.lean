theorem mx0 {x : Int32} (h : 0 ≤ x) : (if 0 < x then x else 0) = x := by
  by_cases z : 0 < x
  · rw [if_pos z]
  · rw [if_neg z]
    have h1 := Int32.le_iff_toInt_le.mp h
    have h2 := Int32.le_iff_toInt_le.mp (Int32.not_lt.mp z)
    exact Int32.toInt_inj.mp (by omega)
set_option maxRecDepth 100000 in
set_option maxHeartbeats 4000000 in
theorem c_X7_build {E : ev_E} {n : Nat} {w : ev_W} {S : gT} {f : Nat → Int32} {w0 : ev_W} (hF : Fr 70 82 w0 w) (hM : MR S f 70 n w) {T : gT} {nh nt dd : Nat} (hG : GQ S f T nh nt dd) {x y z : Int32} : Ct E mX7_build [.ref 70, .int x, .int y, .int z] n w (ev_mr ((buildS T nh x y z).1) n w0 (CR S f (buildS T nh x y z).2 nh nt n)) := by
  refine Ct.of 1 (by decide) (Nat.le_of_ble_eq_true rfl) rfl ?_
  have hd9 := hG.2.2.2
  refine st_iload_n (q := 1) dX7_build_0 rfl rfl rfl ?_
  refine st_if_ne (q := 4) (tgt := 9) dX7_build_1 rfl rfl (fun c_1 => ?_) (fun c_1 => ?_)
  · refine st_iload_n (q := 10) dX7_build_9 rfl rfl rfl ?_
    refine st_iconst (q := 11) dX7_build_10 rfl ic_1 ?_
    refine st_icmp_ne (q := 14) (tgt := 19) dX7_build_11 rfl rfl (fun c_11 => ?_) (fun c_11 => ?_)
    · refine st_iload_n (q := 20) dX7_build_19 rfl rfl rfl ?_
      refine st_iconst (q := 21) dX7_build_20 rfl ic_2 ?_
      refine st_icmp_ne (q := 24) (tgt := 28) dX7_build_21 rfl rfl (fun c_21 => ?_) (fun c_21 => ?_)
      · refine st_bipush (q := 30) dX7_build_28 rfl bp_99 ?_
        first
          | (have hmo : moH y = 20 := by rw [moH, if_pos c_1])
          | (have hmo : moH y = 40 := by rw [moH, if_neg c_1, if_pos c_11])
          | (have hmo : moH y = 3 := by rw [moH, if_neg c_1, if_neg c_11, if_pos c_21])
          | (have hmo : moH y = 99 := by rw [moH, if_neg c_1, if_neg c_11, if_neg c_21])
        refine st_istore (q := 32) (L' := [_, _, _, _, _]) dX7_build_30 rfl (Nat.le_of_ble_eq_true rfl) rfl ?_
        refine st_aload_n (q := 33) dX7_build_32 rfl rfl rfl ?_
        refine st_aload_n (q := 34) dX7_build_33 rfl rfl rfl ?_
        refine st_iload_n (q := 35) dX7_build_34 rfl rfl rfl ?_
        refine sp_V1 (q := 38) (M' := mX7_isHouse) dX7_build_35 rfl ok_X7_isHouse mk_X7_isHouse ml_X7_167 ⟨Nat.le_of_ble_eq_true rfl, Nat.le_of_ble_eq_true rfl⟩ rfl (Nat.le_of_ble_eq_true rfl) (g_rv hM rfl) ⟨rfl, rfl⟩ (c_X7_isHouse hM) ?_
        refine st_if_eq (q := 41) (tgt := 69) dX7_build_38 rfl rfl (fun c_38 => ?_) (fun c_38 => ?_)
        · refine st_iconst (q := 70) dX7_build_69 rfl ic_0 ?_
          refine st_iconst (q := 71) dX7_build_70 rfl ic_4 ?_
          refine st_iload_n (q := 72) dX7_build_71 rfl rfl rfl ?_
          refine st_imul (q := 73) dX7_build_72 rfl ?_
          refine st_iload_n (q := 74) dX7_build_73 rfl rfl rfl ?_
          refine st_iadd (q := 75) dX7_build_74 rfl ?_
          refine st_iload_n (q := 76) dX7_build_75 rfl rfl rfl ?_
          refine st_iconst (q := 77) dX7_build_76 rfl ic_0 ?_
          refine sm_V4 (q := 80) (M' := mX7_puts) dX7_build_77 rfl ok_X7_puts mk_X7_puts ml_X7_181 ⟨Nat.le_of_ble_eq_true rfl, Nat.le_of_ble_eq_true rfl⟩ rfl (Nat.le_of_ble_eq_true rfl) (g_rv hM rfl) ⟨rfl, rfl⟩ (c_X7_puts Fr.rf hM (by first | exact (fun z => absurd rfl z) | exact (fun _ => (ixm (a := 4) (m := m) (c := j) (by omega) (by decide)).1))) ?_
          intro _ n w h9 _
          obtain ⟨rfl, rfl, hM, hF_⟩ := h9
          replace hF := Fr.tr hF hF_
          refine st_ireturn dX7_build_80 rfl ?_
          first
            | (rw [mpuF, if_pos rfl] at hM
               have hb : buildS T nh x y z = (-1, T) := by
                 first
                   | rw [buildS, if_neg (by rw [← hG.2.1, zI_0.mp c_38]; decide)]
                   | rw [buildS, if_pos (by rw [← hG.2.1]; exact zI_1.mp c_38), if_neg (by rw [zI_0.mp c_50]; decide)]
                   | rw [buildS, if_pos (by rw [← hG.2.1]; exact zI_1.mp c_38), if_pos (zI_1.mp c_50), hmo, if_neg (by rw [zI_0.mp c_62]; decide)]
               exact ⟨by rw [hb]; rfl, rfl, ⟨f, dd, hM, by rw [hb]; exact hG.1, hd9, fun _ _ => rfl⟩, hF⟩)
            | (have e9 : ((4 : Int32) * nI m + nI j).toNatClampNeg = 4 * m + j := (ixm (a := 4) (m := m) (c := j) (N := 426) (by omega) (by decide)).2
               rw [mpuF, if_neg (by decide), e9, i32_s0] at hM
               have hb : buildS T nh (nI j) (nI m) z = (T (hrI (nI m)) j, tup T (hrI (nI m)) j z) := by rw [buildS, if_pos h1, if_pos h2, if_pos h3, hjc]
               exact ⟨by rw [hb, if_neg (by decide), e9, Int32.add_zero, hG.1.1.hrow (by omega) hj], rfl, ⟨_, dd, hM, by rw [hb]; exact hG.1.build (by omega) hj h3, hd9, fun q hq => pk_un (by omega)⟩, hF⟩)
        · refine st_iload_n (q := 42) dX7_build_41 rfl rfl rfl ?_
          refine st_i2l (q := 43) dX7_build_42 rfl ?_
          refine st_lconst (q := 44) dX7_build_43 rfl lc_0 ?_
          refine st_ldc2 (q := 47) dX7_build_44 rfl cn_X7_179 ?_
          refine sp_S3 (q := 50) (M' := mX7_in) dX7_build_47 rfl ok_X7_in mk_X7_in ml_X7_46 ⟨Nat.le_of_ble_eq_true rfl, Nat.le_of_ble_eq_true rfl⟩ rfl (Nat.le_of_ble_eq_true rfl) ⟨rfl, rfl⟩ (c_X7_inI (a := 0) (c := 3) (by decide) (by decide)) ?_
          refine st_if_eq (q := 53) (tgt := 69) dX7_build_50 rfl rfl (fun c_50 => ?_) (fun c_50 => ?_)
          · refine st_iconst (q := 70) dX7_build_69 rfl ic_0 ?_
            refine st_iconst (q := 71) dX7_build_70 rfl ic_4 ?_
            refine st_iload_n (q := 72) dX7_build_71 rfl rfl rfl ?_
            refine st_imul (q := 73) dX7_build_72 rfl ?_
            refine st_iload_n (q := 74) dX7_build_73 rfl rfl rfl ?_
            refine st_iadd (q := 75) dX7_build_74 rfl ?_
            refine st_iload_n (q := 76) dX7_build_75 rfl rfl rfl ?_
            refine st_iconst (q := 77) dX7_build_76 rfl ic_0 ?_
            refine sm_V4 (q := 80) (M' := mX7_puts) dX7_build_77 rfl ok_X7_puts mk_X7_puts ml_X7_181 ⟨Nat.le_of_ble_eq_true rfl, Nat.le_of_ble_eq_true rfl⟩ rfl (Nat.le_of_ble_eq_true rfl) (g_rv hM rfl) ⟨rfl, rfl⟩ (c_X7_puts Fr.rf hM (by first | exact (fun z => absurd rfl z) | exact (fun _ => (ixm (a := 4) (m := m) (c := j) (by omega) (by decide)).1))) ?_
            intro _ n w h9 _
            obtain ⟨rfl, rfl, hM, hF_⟩ := h9
            replace hF := Fr.tr hF hF_
            refine st_ireturn dX7_build_80 rfl ?_
            first
              | (rw [mpuF, if_pos rfl] at hM
                 have hb : buildS T nh x y z = (-1, T) := by
                   first
                     | rw [buildS, if_neg (by rw [← hG.2.1, zI_0.mp c_38]; decide)]
                     | rw [buildS, if_pos (by rw [← hG.2.1]; exact zI_1.mp c_38), if_neg (by rw [zI_0.mp c_50]; decide)]
                     | rw [buildS, if_pos (by rw [← hG.2.1]; exact zI_1.mp c_38), if_pos (zI_1.mp c_50), hmo, if_neg (by rw [zI_0.mp c_62]; decide)]
                 exact ⟨by rw [hb]; rfl, rfl, ⟨f, dd, hM, by rw [hb]; exact hG.1, hd9, fun _ _ => rfl⟩, hF⟩)
              | (have e9 : ((4 : Int32) * nI m + nI j).toNatClampNeg = 4 * m + j := (ixm (a := 4) (m := m) (c := j) (N := 426) (by omega) (by decide)).2
                 rw [mpuF, if_neg (by decide), e9, i32_s0] at hM
                 have hb : buildS T nh (nI j) (nI m) z = (T (hrI (nI m)) j, tup T (hrI (nI m)) j z) := by rw [buildS, if_pos h1, if_pos h2, if_pos h3, hjc]
                 exact ⟨by rw [hb, if_neg (by decide), e9, Int32.add_zero, hG.1.1.hrow (by omega) hj], rfl, ⟨_, dd, hM, by rw [hb]; exact hG.1.build (by omega) hj h3, hd9, fun q hq => pk_un (by omega)⟩, hF⟩)
          · refine st_iload_n (q := 54) dX7_build_53 rfl rfl rfl ?_
            refine st_i2l (q := 55) dX7_build_54 rfl ?_
            refine st_lconst (q := 56) dX7_build_55 rfl lc_0 ?_
            refine st_iload (q := 58) dX7_build_56 rfl rfl ?_
            refine st_i2l (q := 59) dX7_build_58 rfl ?_
            refine sp_S3 (q := 62) (M' := mX7_in) dX7_build_59 rfl ok_X7_in mk_X7_in ml_X7_46 ⟨Nat.le_of_ble_eq_true rfl, Nat.le_of_ble_eq_true rfl⟩ rfl (Nat.le_of_ble_eq_true rfl) ⟨rfl, rfl⟩ (c_X7_inI (a := 0) (by decide) rfl) ?_
            refine st_if_eq (q := 65) (tgt := 69) dX7_build_62 rfl rfl (fun c_62 => ?_) (fun c_62 => ?_)
            · refine st_iconst (q := 70) dX7_build_69 rfl ic_0 ?_
              refine st_iconst (q := 71) dX7_build_70 rfl ic_4 ?_
              refine st_iload_n (q := 72) dX7_build_71 rfl rfl rfl ?_
              refine st_imul (q := 73) dX7_build_72 rfl ?_
              refine st_iload_n (q := 74) dX7_build_73 rfl rfl rfl ?_
              refine st_iadd (q := 75) dX7_build_74 rfl ?_
              refine st_iload_n (q := 76) dX7_build_75 rfl rfl rfl ?_
              refine st_iconst (q := 77) dX7_build_76 rfl ic_0 ?_
              refine sm_V4 (q := 80) (M' := mX7_puts) dX7_build_77 rfl ok_X7_puts mk_X7_puts ml_X7_181 ⟨Nat.le_of_ble_eq_true rfl, Nat.le_of_ble_eq_true rfl⟩ rfl (Nat.le_of_ble_eq_true rfl) (g_rv hM rfl) ⟨rfl, rfl⟩ (c_X7_puts Fr.rf hM (by first | exact (fun z => absurd rfl z) | exact (fun _ => (ixm (a := 4) (m := m) (c := j) (by omega) (by decide)).1))) ?_
              intro _ n w h9 _
              obtain ⟨rfl, rfl, hM, hF_⟩ := h9
              replace hF := Fr.tr hF hF_
              refine st_ireturn dX7_build_80 rfl ?_
              first
                | (rw [mpuF, if_pos rfl] at hM
                   have hb : buildS T nh x y z = (-1, T) := by
                     first
                       | rw [buildS, if_neg (by rw [← hG.2.1, zI_0.mp c_38]; decide)]
                       | rw [buildS, if_pos (by rw [← hG.2.1]; exact zI_1.mp c_38), if_neg (by rw [zI_0.mp c_50]; decide)]
                       | rw [buildS, if_pos (by rw [← hG.2.1]; exact zI_1.mp c_38), if_pos (zI_1.mp c_50), hmo, if_neg (by rw [zI_0.mp c_62]; decide)]
                   exact ⟨by rw [hb]; rfl, rfl, ⟨f, dd, hM, by rw [hb]; exact hG.1, hd9, fun _ _ => rfl⟩, hF⟩)
                | (have e9 : ((4 : Int32) * nI m + nI j).toNatClampNeg = 4 * m + j := (ixm (a := 4) (m := m) (c := j) (N := 426) (by omega) (by decide)).2
                   rw [mpuF, if_neg (by decide), e9, i32_s0] at hM
                   have hb : buildS T nh (nI j) (nI m) z = (T (hrI (nI m)) j, tup T (hrI (nI m)) j z) := by rw [buildS, if_pos h1, if_pos h2, if_pos h3, hjc]
                   exact ⟨by rw [hb, if_neg (by decide), e9, Int32.add_zero, hG.1.1.hrow (by omega) hj], rfl, ⟨_, dd, hM, by rw [hb]; exact hG.1.build (by omega) hj h3, hd9, fun q hq => pk_un (by omega)⟩, hF⟩)
            · have hN9 := hG.1.1.hnh
              obtain ⟨j, hj, rfl⟩ := inI_ix (by rw [← hG.2.1]; exact zI_1.mp c_38) (by omega)
              have h1 : inI (nI j) 0 (nI nh - 1) = true := by rw [← hG.2.1]; exact zI_1.mp c_38
              have hjc : (nI j).toNatClampNeg = j := nI_clamp (by omega)
              have h3 : inI z 0 (moH y) = true := by rw [hmo]; exact zI_1.mp c_62
              obtain ⟨m, hm, rfl⟩ := inI_k (k := 3) (zI_1.mp c_50) (by decide)
              have h2 : inI (nI m) 0 3 = true := zI_1.mp c_50
              refine st_iconst (q := 66) dX7_build_65 rfl ic_1 ?_
              refine st_goto (q := 70) dX7_build_66 rfl ?_
              refine st_iconst (q := 71) dX7_build_70 rfl ic_4 ?_
              refine st_iload_n (q := 72) dX7_build_71 rfl rfl rfl ?_
              refine st_imul (q := 73) dX7_build_72 rfl ?_
              refine st_iload_n (q := 74) dX7_build_73 rfl rfl rfl ?_
              refine st_iadd (q := 75) dX7_build_74 rfl ?_
              refine st_iload_n (q := 76) dX7_build_75 rfl rfl rfl ?_
              refine st_iconst (q := 77) dX7_build_76 rfl ic_0 ?_
              refine sm_V4 (q := 80) (M' := mX7_puts) dX7_build_77 rfl ok_X7_puts mk_X7_puts ml_X7_181 ⟨Nat.le_of_ble_eq_true rfl, Nat.le_of_ble_eq_true rfl⟩ rfl (Nat.le_of_ble_eq_true rfl) (g_rv hM rfl) ⟨rfl, rfl⟩ (c_X7_puts Fr.rf hM (by first | exact (fun z => absurd rfl z) | exact (fun _ => (ixm (a := 4) (m := m) (c := j) (by omega) (by decide)).1))) ?_
              intro _ n w h9 _
              obtain ⟨rfl, rfl, hM, hF_⟩ := h9
              replace hF := Fr.tr hF hF_
              refine st_ireturn dX7_build_80 rfl ?_
              first
                | (rw [mpuF, if_pos rfl] at hM
                   have hb : buildS T nh x y z = (-1, T) := by
                     first
                       | rw [buildS, if_neg (by rw [← hG.2.1, zI_0.mp c_38]; decide)]
                       | rw [buildS, if_pos (by rw [← hG.2.1]; exact zI_1.mp c_38), if_neg (by rw [zI_0.mp c_50]; decide)]
                       | rw [buildS, if_pos (by rw [← hG.2.1]; exact zI_1.mp c_38), if_pos (zI_1.mp c_50), hmo, if_neg (by rw [zI_0.mp c_62]; decide)]
                   exact ⟨by rw [hb]; rfl, rfl, ⟨f, dd, hM, by rw [hb]; exact hG.1, hd9, fun _ _ => rfl⟩, hF⟩)
                | (have e9 : ((4 : Int32) * nI m + nI j).toNatClampNeg = 4 * m + j := (ixm (a := 4) (m := m) (c := j) (N := 426) (by omega) (by decide)).2
                   rw [mpuF, if_neg (by decide), e9, i32_s0] at hM
                   have hb : buildS T nh (nI j) (nI m) z = (T (hrI (nI m)) j, tup T (hrI (nI m)) j z) := by rw [buildS, if_pos h1, if_pos h2, if_pos h3, hjc]
                   exact ⟨by rw [hb, if_neg (by decide), e9, Int32.add_zero, hG.1.1.hrow (by omega) hj], rfl, ⟨_, dd, hM, by rw [hb]; exact hG.1.build (by omega) hj h3, hd9, fun q hq => pk_un (by omega)⟩, hF⟩)
      · refine st_iconst (q := 25) dX7_build_24 rfl ic_3 ?_
        refine st_goto (q := 30) dX7_build_25 rfl ?_
        first
          | (have hmo : moH y = 20 := by rw [moH, if_pos c_1])
          | (have hmo : moH y = 40 := by rw [moH, if_neg c_1, if_pos c_11])
          | (have hmo : moH y = 3 := by rw [moH, if_neg c_1, if_neg c_11, if_pos c_21])
          | (have hmo : moH y = 99 := by rw [moH, if_neg c_1, if_neg c_11, if_neg c_21])
        refine st_istore (q := 32) (L' := [_, _, _, _, _]) dX7_build_30 rfl (Nat.le_of_ble_eq_true rfl) rfl ?_
        refine st_aload_n (q := 33) dX7_build_32 rfl rfl rfl ?_
        refine st_aload_n (q := 34) dX7_build_33 rfl rfl rfl ?_
        refine st_iload_n (q := 35) dX7_build_34 rfl rfl rfl ?_
        refine sp_V1 (q := 38) (M' := mX7_isHouse) dX7_build_35 rfl ok_X7_isHouse mk_X7_isHouse ml_X7_167 ⟨Nat.le_of_ble_eq_true rfl, Nat.le_of_ble_eq_true rfl⟩ rfl (Nat.le_of_ble_eq_true rfl) (g_rv hM rfl) ⟨rfl, rfl⟩ (c_X7_isHouse hM) ?_
        refine st_if_eq (q := 41) (tgt := 69) dX7_build_38 rfl rfl (fun c_38 => ?_) (fun c_38 => ?_)
        · refine st_iconst (q := 70) dX7_build_69 rfl ic_0 ?_
          refine st_iconst (q := 71) dX7_build_70 rfl ic_4 ?_
          refine st_iload_n (q := 72) dX7_build_71 rfl rfl rfl ?_
          refine st_imul (q := 73) dX7_build_72 rfl ?_
          refine st_iload_n (q := 74) dX7_build_73 rfl rfl rfl ?_
          refine st_iadd (q := 75) dX7_build_74 rfl ?_
          refine st_iload_n (q := 76) dX7_build_75 rfl rfl rfl ?_
          refine st_iconst (q := 77) dX7_build_76 rfl ic_0 ?_
          refine sm_V4 (q := 80) (M' := mX7_puts) dX7_build_77 rfl ok_X7_puts mk_X7_puts ml_X7_181 ⟨Nat.le_of_ble_eq_true rfl, Nat.le_of_ble_eq_true rfl⟩ rfl (Nat.le_of_ble_eq_true rfl) (g_rv hM rfl) ⟨rfl, rfl⟩ (c_X7_puts Fr.rf hM (by first | exact (fun z => absurd rfl z) | exact (fun _ => (ixm (a := 4) (m := m) (c := j) (by omega) (by decide)).1))) ?_
          intro _ n w h9 _
          obtain ⟨rfl, rfl, hM, hF_⟩ := h9
          replace hF := Fr.tr hF hF_
          refine st_ireturn dX7_build_80 rfl ?_
          first
            | (rw [mpuF, if_pos rfl] at hM
               have hb : buildS T nh x y z = (-1, T) := by
                 first
                   | rw [buildS, if_neg (by rw [← hG.2.1, zI_0.mp c_38]; decide)]
                   | rw [buildS, if_pos (by rw [← hG.2.1]; exact zI_1.mp c_38), if_neg (by rw [zI_0.mp c_50]; decide)]
                   | rw [buildS, if_pos (by rw [← hG.2.1]; exact zI_1.mp c_38), if_pos (zI_1.mp c_50), hmo, if_neg (by rw [zI_0.mp c_62]; decide)]
               exact ⟨by rw [hb]; rfl, rfl, ⟨f, dd, hM, by rw [hb]; exact hG.1, hd9, fun _ _ => rfl⟩, hF⟩)
            | (have e9 : ((4 : Int32) * nI m + nI j).toNatClampNeg = 4 * m + j := (ixm (a := 4) (m := m) (c := j) (N := 426) (by omega) (by decide)).2
               rw [mpuF, if_neg (by decide), e9, i32_s0] at hM
               have hb : buildS T nh (nI j) (nI m) z = (T (hrI (nI m)) j, tup T (hrI (nI m)) j z) := by rw [buildS, if_pos h1, if_pos h2, if_pos h3, hjc]
               exact ⟨by rw [hb, if_neg (by decide), e9, Int32.add_zero, hG.1.1.hrow (by omega) hj], rfl, ⟨_, dd, hM, by rw [hb]; exact hG.1.build (by omega) hj h3, hd9, fun q hq => pk_un (by omega)⟩, hF⟩)
        · refine st_iload_n (q := 42) dX7_build_41 rfl rfl rfl ?_
          refine st_i2l (q := 43) dX7_build_42 rfl ?_
          refine st_lconst (q := 44) dX7_build_43 rfl lc_0 ?_
          refine st_ldc2 (q := 47) dX7_build_44 rfl cn_X7_179 ?_
          refine sp_S3 (q := 50) (M' := mX7_in) dX7_build_47 rfl ok_X7_in mk_X7_in ml_X7_46 ⟨Nat.le_of_ble_eq_true rfl, Nat.le_of_ble_eq_true rfl⟩ rfl (Nat.le_of_ble_eq_true rfl) ⟨rfl, rfl⟩ (c_X7_inI (a := 0) (c := 3) (by decide) (by decide)) ?_
          refine st_if_eq (q := 53) (tgt := 69) dX7_build_50 rfl rfl (fun c_50 => ?_) (fun c_50 => ?_)
          · refine st_iconst (q := 70) dX7_build_69 rfl ic_0 ?_
            refine st_iconst (q := 71) dX7_build_70 rfl ic_4 ?_
            refine st_iload_n (q := 72) dX7_build_71 rfl rfl rfl ?_
            refine st_imul (q := 73) dX7_build_72 rfl ?_
            refine st_iload_n (q := 74) dX7_build_73 rfl rfl rfl ?_
            refine st_iadd (q := 75) dX7_build_74 rfl ?_
            refine st_iload_n (q := 76) dX7_build_75 rfl rfl rfl ?_
            refine st_iconst (q := 77) dX7_build_76 rfl ic_0 ?_
            refine sm_V4 (q := 80) (M' := mX7_puts) dX7_build_77 rfl ok_X7_puts mk_X7_puts ml_X7_181 ⟨Nat.le_of_ble_eq_true rfl, Nat.le_of_ble_eq_true rfl⟩ rfl (Nat.le_of_ble_eq_true rfl) (g_rv hM rfl) ⟨rfl, rfl⟩ (c_X7_puts Fr.rf hM (by first | exact (fun z => absurd rfl z) | exact (fun _ => (ixm (a := 4) (m := m) (c := j) (by omega) (by decide)).1))) ?_
            intro _ n w h9 _
            obtain ⟨rfl, rfl, hM, hF_⟩ := h9
            replace hF := Fr.tr hF hF_
            refine st_ireturn dX7_build_80 rfl ?_
            first
              | (rw [mpuF, if_pos rfl] at hM
                 have hb : buildS T nh x y z = (-1, T) := by
                   first
                     | rw [buildS, if_neg (by rw [← hG.2.1, zI_0.mp c_38]; decide)]
                     | rw [buildS, if_pos (by rw [← hG.2.1]; exact zI_1.mp c_38), if_neg (by rw [zI_0.mp c_50]; decide)]
                     | rw [buildS, if_pos (by rw [← hG.2.1]; exact zI_1.mp c_38), if_pos (zI_1.mp c_50), hmo, if_neg (by rw [zI_0.mp c_62]; decide)]
                 exact ⟨by rw [hb]; rfl, rfl, ⟨f, dd, hM, by rw [hb]; exact hG.1, hd9, fun _ _ => rfl⟩, hF⟩)
              | (have e9 : ((4 : Int32) * nI m + nI j).toNatClampNeg = 4 * m + j := (ixm (a := 4) (m := m) (c := j) (N := 426) (by omega) (by decide)).2
                 rw [mpuF, if_neg (by decide), e9, i32_s0] at hM
                 have hb : buildS T nh (nI j) (nI m) z = (T (hrI (nI m)) j, tup T (hrI (nI m)) j z) := by rw [buildS, if_pos h1, if_pos h2, if_pos h3, hjc]
                 exact ⟨by rw [hb, if_neg (by decide), e9, Int32.add_zero, hG.1.1.hrow (by omega) hj], rfl, ⟨_, dd, hM, by rw [hb]; exact hG.1.build (by omega) hj h3, hd9, fun q hq => pk_un (by omega)⟩, hF⟩)
          · refine st_iload_n (q := 54) dX7_build_53 rfl rfl rfl ?_
            refine st_i2l (q := 55) dX7_build_54 rfl ?_
            refine st_lconst (q := 56) dX7_build_55 rfl lc_0 ?_
            refine st_iload (q := 58) dX7_build_56 rfl rfl ?_
            refine st_i2l (q := 59) dX7_build_58 rfl ?_
            refine sp_S3 (q := 62) (M' := mX7_in) dX7_build_59 rfl ok_X7_in mk_X7_in ml_X7_46 ⟨Nat.le_of_ble_eq_true rfl, Nat.le_of_ble_eq_true rfl⟩ rfl (Nat.le_of_ble_eq_true rfl) ⟨rfl, rfl⟩ (c_X7_inI (a := 0) (by decide) rfl) ?_
            refine st_if_eq (q := 65) (tgt := 69) dX7_build_62 rfl rfl (fun c_62 => ?_) (fun c_62 => ?_)
            · refine st_iconst (q := 70) dX7_build_69 rfl ic_0 ?_
              refine st_iconst (q := 71) dX7_build_70 rfl ic_4 ?_
              refine st_iload_n (q := 72) dX7_build_71 rfl rfl rfl ?_
              refine st_imul (q := 73) dX7_build_72 rfl ?_
              refine st_iload_n (q := 74) dX7_build_73 rfl rfl rfl ?_
              refine st_iadd (q := 75) dX7_build_74 rfl ?_
              refine st_iload_n (q := 76) dX7_build_75 rfl rfl rfl ?_
              refine st_iconst (q := 77) dX7_build_76 rfl ic_0 ?_
              refine sm_V4 (q := 80) (M' := mX7_puts) dX7_build_77 rfl ok_X7_puts mk_X7_puts ml_X7_181 ⟨Nat.le_of_ble_eq_true rfl, Nat.le_of_ble_eq_true rfl⟩ rfl (Nat.le_of_ble_eq_true rfl) (g_rv hM rfl) ⟨rfl, rfl⟩ (c_X7_puts Fr.rf hM (by first | exact (fun z => absurd rfl z) | exact (fun _ => (ixm (a := 4) (m := m) (c := j) (by omega) (by decide)).1))) ?_
              intro _ n w h9 _
              obtain ⟨rfl, rfl, hM, hF_⟩ := h9
              replace hF := Fr.tr hF hF_
              refine st_ireturn dX7_build_80 rfl ?_
              first
                | (rw [mpuF, if_pos rfl] at hM
                   have hb : buildS T nh x y z = (-1, T) := by
                     first
                       | rw [buildS, if_neg (by rw [← hG.2.1, zI_0.mp c_38]; decide)]
                       | rw [buildS, if_pos (by rw [← hG.2.1]; exact zI_1.mp c_38), if_neg (by rw [zI_0.mp c_50]; decide)]
                       | rw [buildS, if_pos (by rw [← hG.2.1]; exact zI_1.mp c_38), if_pos (zI_1.mp c_50), hmo, if_neg (by rw [zI_0.mp c_62]; decide)]
                   exact ⟨by rw [hb]; rfl, rfl, ⟨f, dd, hM, by rw [hb]; exact hG.1, hd9, fun _ _ => rfl⟩, hF⟩)
                | (have e9 : ((4 : Int32) * nI m + nI j).toNatClampNeg = 4 * m + j := (ixm (a := 4) (m := m) (c := j) (N := 426) (by omega) (by decide)).2
                   rw [mpuF, if_neg (by decide), e9, i32_s0] at hM
                   have hb : buildS T nh (nI j) (nI m) z = (T (hrI (nI m)) j, tup T (hrI (nI m)) j z) := by rw [buildS, if_pos h1, if_pos h2, if_pos h3, hjc]
                   exact ⟨by rw [hb, if_neg (by decide), e9, Int32.add_zero, hG.1.1.hrow (by omega) hj], rfl, ⟨_, dd, hM, by rw [hb]; exact hG.1.build (by omega) hj h3, hd9, fun q hq => pk_un (by omega)⟩, hF⟩)
            · have hN9 := hG.1.1.hnh
              obtain ⟨j, hj, rfl⟩ := inI_ix (by rw [← hG.2.1]; exact zI_1.mp c_38) (by omega)
              have h1 : inI (nI j) 0 (nI nh - 1) = true := by rw [← hG.2.1]; exact zI_1.mp c_38
              have hjc : (nI j).toNatClampNeg = j := nI_clamp (by omega)
              have h3 : inI z 0 (moH y) = true := by rw [hmo]; exact zI_1.mp c_62
              obtain ⟨m, hm, rfl⟩ := inI_k (k := 3) (zI_1.mp c_50) (by decide)
              have h2 : inI (nI m) 0 3 = true := zI_1.mp c_50
              refine st_iconst (q := 66) dX7_build_65 rfl ic_1 ?_
              refine st_goto (q := 70) dX7_build_66 rfl ?_
              refine st_iconst (q := 71) dX7_build_70 rfl ic_4 ?_
              refine st_iload_n (q := 72) dX7_build_71 rfl rfl rfl ?_
              refine st_imul (q := 73) dX7_build_72 rfl ?_
              refine st_iload_n (q := 74) dX7_build_73 rfl rfl rfl ?_
              refine st_iadd (q := 75) dX7_build_74 rfl ?_
              refine st_iload_n (q := 76) dX7_build_75 rfl rfl rfl ?_
              refine st_iconst (q := 77) dX7_build_76 rfl ic_0 ?_
              refine sm_V4 (q := 80) (M' := mX7_puts) dX7_build_77 rfl ok_X7_puts mk_X7_puts ml_X7_181 ⟨Nat.le_of_ble_eq_true rfl, Nat.le_of_ble_eq_true rfl⟩ rfl (Nat.le_of_ble_eq_true rfl) (g_rv hM rfl) ⟨rfl, rfl⟩ (c_X7_puts Fr.rf hM (by first | exact (fun z => absurd rfl z) | exact (fun _ => (ixm (a := 4) (m := m) (c := j) (by omega) (by decide)).1))) ?_
              intro _ n w h9 _
              obtain ⟨rfl, rfl, hM, hF_⟩ := h9
              replace hF := Fr.tr hF hF_
              refine st_ireturn dX7_build_80 rfl ?_
              first
                | (rw [mpuF, if_pos rfl] at hM
                   have hb : buildS T nh x y z = (-1, T) := by
                     first
                       | rw [buildS, if_neg (by rw [← hG.2.1, zI_0.mp c_38]; decide)]
                       | rw [buildS, if_pos (by rw [← hG.2.1]; exact zI_1.mp c_38), if_neg (by rw [zI_0.mp c_50]; decide)]
                       | rw [buildS, if_pos (by rw [← hG.2.1]; exact zI_1.mp c_38), if_pos (zI_1.mp c_50), hmo, if_neg (by rw [zI_0.mp c_62]; decide)]
                   exact ⟨by rw [hb]; rfl, rfl, ⟨f, dd, hM, by rw [hb]; exact hG.1, hd9, fun _ _ => rfl⟩, hF⟩)
                | (have e9 : ((4 : Int32) * nI m + nI j).toNatClampNeg = 4 * m + j := (ixm (a := 4) (m := m) (c := j) (N := 426) (by omega) (by decide)).2
                   rw [mpuF, if_neg (by decide), e9, i32_s0] at hM
                   have hb : buildS T nh (nI j) (nI m) z = (T (hrI (nI m)) j, tup T (hrI (nI m)) j z) := by rw [buildS, if_pos h1, if_pos h2, if_pos h3, hjc]
                   exact ⟨by rw [hb, if_neg (by decide), e9, Int32.add_zero, hG.1.1.hrow (by omega) hj], rfl, ⟨_, dd, hM, by rw [hb]; exact hG.1.build (by omega) hj h3, hd9, fun q hq => pk_un (by omega)⟩, hF⟩)
    · refine st_bipush (q := 16) dX7_build_14 rfl bp_40 ?_
      refine st_goto (q := 30) dX7_build_16 rfl ?_
      first
        | (have hmo : moH y = 20 := by rw [moH, if_pos c_1])
        | (have hmo : moH y = 40 := by rw [moH, if_neg c_1, if_pos c_11])
        | (have hmo : moH y = 3 := by rw [moH, if_neg c_1, if_neg c_11, if_pos c_21])
        | (have hmo : moH y = 99 := by rw [moH, if_neg c_1, if_neg c_11, if_neg c_21])
      refine st_istore (q := 32) (L' := [_, _, _, _, _]) dX7_build_30 rfl (Nat.le_of_ble_eq_true rfl) rfl ?_
      refine st_aload_n (q := 33) dX7_build_32 rfl rfl rfl ?_
      refine st_aload_n (q := 34) dX7_build_33 rfl rfl rfl ?_
      refine st_iload_n (q := 35) dX7_build_34 rfl rfl rfl ?_
      refine sp_V1 (q := 38) (M' := mX7_isHouse) dX7_build_35 rfl ok_X7_isHouse mk_X7_isHouse ml_X7_167 ⟨Nat.le_of_ble_eq_true rfl, Nat.le_of_ble_eq_true rfl⟩ rfl (Nat.le_of_ble_eq_true rfl) (g_rv hM rfl) ⟨rfl, rfl⟩ (c_X7_isHouse hM) ?_
      refine st_if_eq (q := 41) (tgt := 69) dX7_build_38 rfl rfl (fun c_38 => ?_) (fun c_38 => ?_)
      · refine st_iconst (q := 70) dX7_build_69 rfl ic_0 ?_
        refine st_iconst (q := 71) dX7_build_70 rfl ic_4 ?_
        refine st_iload_n (q := 72) dX7_build_71 rfl rfl rfl ?_
        refine st_imul (q := 73) dX7_build_72 rfl ?_
        refine st_iload_n (q := 74) dX7_build_73 rfl rfl rfl ?_
        refine st_iadd (q := 75) dX7_build_74 rfl ?_
        refine st_iload_n (q := 76) dX7_build_75 rfl rfl rfl ?_
        refine st_iconst (q := 77) dX7_build_76 rfl ic_0 ?_
        refine sm_V4 (q := 80) (M' := mX7_puts) dX7_build_77 rfl ok_X7_puts mk_X7_puts ml_X7_181 ⟨Nat.le_of_ble_eq_true rfl, Nat.le_of_ble_eq_true rfl⟩ rfl (Nat.le_of_ble_eq_true rfl) (g_rv hM rfl) ⟨rfl, rfl⟩ (c_X7_puts Fr.rf hM (by first | exact (fun z => absurd rfl z) | exact (fun _ => (ixm (a := 4) (m := m) (c := j) (by omega) (by decide)).1))) ?_
        intro _ n w h9 _
        obtain ⟨rfl, rfl, hM, hF_⟩ := h9
        replace hF := Fr.tr hF hF_
        refine st_ireturn dX7_build_80 rfl ?_
        first
          | (rw [mpuF, if_pos rfl] at hM
             have hb : buildS T nh x y z = (-1, T) := by
               first
                 | rw [buildS, if_neg (by rw [← hG.2.1, zI_0.mp c_38]; decide)]
                 | rw [buildS, if_pos (by rw [← hG.2.1]; exact zI_1.mp c_38), if_neg (by rw [zI_0.mp c_50]; decide)]
                 | rw [buildS, if_pos (by rw [← hG.2.1]; exact zI_1.mp c_38), if_pos (zI_1.mp c_50), hmo, if_neg (by rw [zI_0.mp c_62]; decide)]
             exact ⟨by rw [hb]; rfl, rfl, ⟨f, dd, hM, by rw [hb]; exact hG.1, hd9, fun _ _ => rfl⟩, hF⟩)
          | (have e9 : ((4 : Int32) * nI m + nI j).toNatClampNeg = 4 * m + j := (ixm (a := 4) (m := m) (c := j) (N := 426) (by omega) (by decide)).2
             rw [mpuF, if_neg (by decide), e9, i32_s0] at hM
             have hb : buildS T nh (nI j) (nI m) z = (T (hrI (nI m)) j, tup T (hrI (nI m)) j z) := by rw [buildS, if_pos h1, if_pos h2, if_pos h3, hjc]
             exact ⟨by rw [hb, if_neg (by decide), e9, Int32.add_zero, hG.1.1.hrow (by omega) hj], rfl, ⟨_, dd, hM, by rw [hb]; exact hG.1.build (by omega) hj h3, hd9, fun q hq => pk_un (by omega)⟩, hF⟩)
      · refine st_iload_n (q := 42) dX7_build_41 rfl rfl rfl ?_
        refine st_i2l (q := 43) dX7_build_42 rfl ?_
        refine st_lconst (q := 44) dX7_build_43 rfl lc_0 ?_
        refine st_ldc2 (q := 47) dX7_build_44 rfl cn_X7_179 ?_
        refine sp_S3 (q := 50) (M' := mX7_in) dX7_build_47 rfl ok_X7_in mk_X7_in ml_X7_46 ⟨Nat.le_of_ble_eq_true rfl, Nat.le_of_ble_eq_true rfl⟩ rfl (Nat.le_of_ble_eq_true rfl) ⟨rfl, rfl⟩ (c_X7_inI (a := 0) (c := 3) (by decide) (by decide)) ?_
        refine st_if_eq (q := 53) (tgt := 69) dX7_build_50 rfl rfl (fun c_50 => ?_) (fun c_50 => ?_)
        · refine st_iconst (q := 70) dX7_build_69 rfl ic_0 ?_
          refine st_iconst (q := 71) dX7_build_70 rfl ic_4 ?_
          refine st_iload_n (q := 72) dX7_build_71 rfl rfl rfl ?_
          refine st_imul (q := 73) dX7_build_72 rfl ?_
          refine st_iload_n (q := 74) dX7_build_73 rfl rfl rfl ?_
          refine st_iadd (q := 75) dX7_build_74 rfl ?_
          refine st_iload_n (q := 76) dX7_build_75 rfl rfl rfl ?_
          refine st_iconst (q := 77) dX7_build_76 rfl ic_0 ?_
          refine sm_V4 (q := 80) (M' := mX7_puts) dX7_build_77 rfl ok_X7_puts mk_X7_puts ml_X7_181 ⟨Nat.le_of_ble_eq_true rfl, Nat.le_of_ble_eq_true rfl⟩ rfl (Nat.le_of_ble_eq_true rfl) (g_rv hM rfl) ⟨rfl, rfl⟩ (c_X7_puts Fr.rf hM (by first | exact (fun z => absurd rfl z) | exact (fun _ => (ixm (a := 4) (m := m) (c := j) (by omega) (by decide)).1))) ?_
          intro _ n w h9 _
          obtain ⟨rfl, rfl, hM, hF_⟩ := h9
          replace hF := Fr.tr hF hF_
          refine st_ireturn dX7_build_80 rfl ?_
          first
            | (rw [mpuF, if_pos rfl] at hM
               have hb : buildS T nh x y z = (-1, T) := by
                 first
                   | rw [buildS, if_neg (by rw [← hG.2.1, zI_0.mp c_38]; decide)]
                   | rw [buildS, if_pos (by rw [← hG.2.1]; exact zI_1.mp c_38), if_neg (by rw [zI_0.mp c_50]; decide)]
                   | rw [buildS, if_pos (by rw [← hG.2.1]; exact zI_1.mp c_38), if_pos (zI_1.mp c_50), hmo, if_neg (by rw [zI_0.mp c_62]; decide)]
               exact ⟨by rw [hb]; rfl, rfl, ⟨f, dd, hM, by rw [hb]; exact hG.1, hd9, fun _ _ => rfl⟩, hF⟩)
            | (have e9 : ((4 : Int32) * nI m + nI j).toNatClampNeg = 4 * m + j := (ixm (a := 4) (m := m) (c := j) (N := 426) (by omega) (by decide)).2
               rw [mpuF, if_neg (by decide), e9, i32_s0] at hM
               have hb : buildS T nh (nI j) (nI m) z = (T (hrI (nI m)) j, tup T (hrI (nI m)) j z) := by rw [buildS, if_pos h1, if_pos h2, if_pos h3, hjc]
               exact ⟨by rw [hb, if_neg (by decide), e9, Int32.add_zero, hG.1.1.hrow (by omega) hj], rfl, ⟨_, dd, hM, by rw [hb]; exact hG.1.build (by omega) hj h3, hd9, fun q hq => pk_un (by omega)⟩, hF⟩)
        · refine st_iload_n (q := 54) dX7_build_53 rfl rfl rfl ?_
          refine st_i2l (q := 55) dX7_build_54 rfl ?_
          refine st_lconst (q := 56) dX7_build_55 rfl lc_0 ?_
          refine st_iload (q := 58) dX7_build_56 rfl rfl ?_
          refine st_i2l (q := 59) dX7_build_58 rfl ?_
          refine sp_S3 (q := 62) (M' := mX7_in) dX7_build_59 rfl ok_X7_in mk_X7_in ml_X7_46 ⟨Nat.le_of_ble_eq_true rfl, Nat.le_of_ble_eq_true rfl⟩ rfl (Nat.le_of_ble_eq_true rfl) ⟨rfl, rfl⟩ (c_X7_inI (a := 0) (by decide) rfl) ?_
          refine st_if_eq (q := 65) (tgt := 69) dX7_build_62 rfl rfl (fun c_62 => ?_) (fun c_62 => ?_)
          · refine st_iconst (q := 70) dX7_build_69 rfl ic_0 ?_
            refine st_iconst (q := 71) dX7_build_70 rfl ic_4 ?_
            refine st_iload_n (q := 72) dX7_build_71 rfl rfl rfl ?_
            refine st_imul (q := 73) dX7_build_72 rfl ?_
            refine st_iload_n (q := 74) dX7_build_73 rfl rfl rfl ?_
            refine st_iadd (q := 75) dX7_build_74 rfl ?_
            refine st_iload_n (q := 76) dX7_build_75 rfl rfl rfl ?_
            refine st_iconst (q := 77) dX7_build_76 rfl ic_0 ?_
            refine sm_V4 (q := 80) (M' := mX7_puts) dX7_build_77 rfl ok_X7_puts mk_X7_puts ml_X7_181 ⟨Nat.le_of_ble_eq_true rfl, Nat.le_of_ble_eq_true rfl⟩ rfl (Nat.le_of_ble_eq_true rfl) (g_rv hM rfl) ⟨rfl, rfl⟩ (c_X7_puts Fr.rf hM (by first | exact (fun z => absurd rfl z) | exact (fun _ => (ixm (a := 4) (m := m) (c := j) (by omega) (by decide)).1))) ?_
            intro _ n w h9 _
            obtain ⟨rfl, rfl, hM, hF_⟩ := h9
            replace hF := Fr.tr hF hF_
            refine st_ireturn dX7_build_80 rfl ?_
            first
              | (rw [mpuF, if_pos rfl] at hM
                 have hb : buildS T nh x y z = (-1, T) := by
                   first
                     | rw [buildS, if_neg (by rw [← hG.2.1, zI_0.mp c_38]; decide)]
                     | rw [buildS, if_pos (by rw [← hG.2.1]; exact zI_1.mp c_38), if_neg (by rw [zI_0.mp c_50]; decide)]
                     | rw [buildS, if_pos (by rw [← hG.2.1]; exact zI_1.mp c_38), if_pos (zI_1.mp c_50), hmo, if_neg (by rw [zI_0.mp c_62]; decide)]
                 exact ⟨by rw [hb]; rfl, rfl, ⟨f, dd, hM, by rw [hb]; exact hG.1, hd9, fun _ _ => rfl⟩, hF⟩)
              | (have e9 : ((4 : Int32) * nI m + nI j).toNatClampNeg = 4 * m + j := (ixm (a := 4) (m := m) (c := j) (N := 426) (by omega) (by decide)).2
                 rw [mpuF, if_neg (by decide), e9, i32_s0] at hM
                 have hb : buildS T nh (nI j) (nI m) z = (T (hrI (nI m)) j, tup T (hrI (nI m)) j z) := by rw [buildS, if_pos h1, if_pos h2, if_pos h3, hjc]
                 exact ⟨by rw [hb, if_neg (by decide), e9, Int32.add_zero, hG.1.1.hrow (by omega) hj], rfl, ⟨_, dd, hM, by rw [hb]; exact hG.1.build (by omega) hj h3, hd9, fun q hq => pk_un (by omega)⟩, hF⟩)
          · have hN9 := hG.1.1.hnh
            obtain ⟨j, hj, rfl⟩ := inI_ix (by rw [← hG.2.1]; exact zI_1.mp c_38) (by omega)
            have h1 : inI (nI j) 0 (nI nh - 1) = true := by rw [← hG.2.1]; exact zI_1.mp c_38
            have hjc : (nI j).toNatClampNeg = j := nI_clamp (by omega)
            have h3 : inI z 0 (moH y) = true := by rw [hmo]; exact zI_1.mp c_62
            obtain ⟨m, hm, rfl⟩ := inI_k (k := 3) (zI_1.mp c_50) (by decide)
            have h2 : inI (nI m) 0 3 = true := zI_1.mp c_50
            refine st_iconst (q := 66) dX7_build_65 rfl ic_1 ?_
            refine st_goto (q := 70) dX7_build_66 rfl ?_
            refine st_iconst (q := 71) dX7_build_70 rfl ic_4 ?_
            refine st_iload_n (q := 72) dX7_build_71 rfl rfl rfl ?_
            refine st_imul (q := 73) dX7_build_72 rfl ?_
            refine st_iload_n (q := 74) dX7_build_73 rfl rfl rfl ?_
            refine st_iadd (q := 75) dX7_build_74 rfl ?_
            refine st_iload_n (q := 76) dX7_build_75 rfl rfl rfl ?_
            refine st_iconst (q := 77) dX7_build_76 rfl ic_0 ?_
            refine sm_V4 (q := 80) (M' := mX7_puts) dX7_build_77 rfl ok_X7_puts mk_X7_puts ml_X7_181 ⟨Nat.le_of_ble_eq_true rfl, Nat.le_of_ble_eq_true rfl⟩ rfl (Nat.le_of_ble_eq_true rfl) (g_rv hM rfl) ⟨rfl, rfl⟩ (c_X7_puts Fr.rf hM (by first | exact (fun z => absurd rfl z) | exact (fun _ => (ixm (a := 4) (m := m) (c := j) (by omega) (by decide)).1))) ?_
            intro _ n w h9 _
            obtain ⟨rfl, rfl, hM, hF_⟩ := h9
            replace hF := Fr.tr hF hF_
            refine st_ireturn dX7_build_80 rfl ?_
            first
              | (rw [mpuF, if_pos rfl] at hM
                 have hb : buildS T nh x y z = (-1, T) := by
                   first
                     | rw [buildS, if_neg (by rw [← hG.2.1, zI_0.mp c_38]; decide)]
                     | rw [buildS, if_pos (by rw [← hG.2.1]; exact zI_1.mp c_38), if_neg (by rw [zI_0.mp c_50]; decide)]
                     | rw [buildS, if_pos (by rw [← hG.2.1]; exact zI_1.mp c_38), if_pos (zI_1.mp c_50), hmo, if_neg (by rw [zI_0.mp c_62]; decide)]
                 exact ⟨by rw [hb]; rfl, rfl, ⟨f, dd, hM, by rw [hb]; exact hG.1, hd9, fun _ _ => rfl⟩, hF⟩)
              | (have e9 : ((4 : Int32) * nI m + nI j).toNatClampNeg = 4 * m + j := (ixm (a := 4) (m := m) (c := j) (N := 426) (by omega) (by decide)).2
                 rw [mpuF, if_neg (by decide), e9, i32_s0] at hM
                 have hb : buildS T nh (nI j) (nI m) z = (T (hrI (nI m)) j, tup T (hrI (nI m)) j z) := by rw [buildS, if_pos h1, if_pos h2, if_pos h3, hjc]
                 exact ⟨by rw [hb, if_neg (by decide), e9, Int32.add_zero, hG.1.1.hrow (by omega) hj], rfl, ⟨_, dd, hM, by rw [hb]; exact hG.1.build (by omega) hj h3, hd9, fun q hq => pk_un (by omega)⟩, hF⟩)
  · refine st_bipush (q := 6) dX7_build_4 rfl bp_20 ?_
    refine st_goto (q := 30) dX7_build_6 rfl ?_
    first
      | (have hmo : moH y = 20 := by rw [moH, if_pos c_1])
      | (have hmo : moH y = 40 := by rw [moH, if_neg c_1, if_pos c_11])
      | (have hmo : moH y = 3 := by rw [moH, if_neg c_1, if_neg c_11, if_pos c_21])
      | (have hmo : moH y = 99 := by rw [moH, if_neg c_1, if_neg c_11, if_neg c_21])
    refine st_istore (q := 32) (L' := [_, _, _, _, _]) dX7_build_30 rfl (Nat.le_of_ble_eq_true rfl) rfl ?_
    refine st_aload_n (q := 33) dX7_build_32 rfl rfl rfl ?_
    refine st_aload_n (q := 34) dX7_build_33 rfl rfl rfl ?_
    refine st_iload_n (q := 35) dX7_build_34 rfl rfl rfl ?_
    refine sp_V1 (q := 38) (M' := mX7_isHouse) dX7_build_35 rfl ok_X7_isHouse mk_X7_isHouse ml_X7_167 ⟨Nat.le_of_ble_eq_true rfl, Nat.le_of_ble_eq_true rfl⟩ rfl (Nat.le_of_ble_eq_true rfl) (g_rv hM rfl) ⟨rfl, rfl⟩ (c_X7_isHouse hM) ?_
    refine st_if_eq (q := 41) (tgt := 69) dX7_build_38 rfl rfl (fun c_38 => ?_) (fun c_38 => ?_)
    · refine st_iconst (q := 70) dX7_build_69 rfl ic_0 ?_
      refine st_iconst (q := 71) dX7_build_70 rfl ic_4 ?_
      refine st_iload_n (q := 72) dX7_build_71 rfl rfl rfl ?_
      refine st_imul (q := 73) dX7_build_72 rfl ?_
      refine st_iload_n (q := 74) dX7_build_73 rfl rfl rfl ?_
      refine st_iadd (q := 75) dX7_build_74 rfl ?_
      refine st_iload_n (q := 76) dX7_build_75 rfl rfl rfl ?_
      refine st_iconst (q := 77) dX7_build_76 rfl ic_0 ?_
      refine sm_V4 (q := 80) (M' := mX7_puts) dX7_build_77 rfl ok_X7_puts mk_X7_puts ml_X7_181 ⟨Nat.le_of_ble_eq_true rfl, Nat.le_of_ble_eq_true rfl⟩ rfl (Nat.le_of_ble_eq_true rfl) (g_rv hM rfl) ⟨rfl, rfl⟩ (c_X7_puts Fr.rf hM (by first | exact (fun z => absurd rfl z) | exact (fun _ => (ixm (a := 4) (m := m) (c := j) (by omega) (by decide)).1))) ?_
      intro _ n w h9 _
      obtain ⟨rfl, rfl, hM, hF_⟩ := h9
      replace hF := Fr.tr hF hF_
      refine st_ireturn dX7_build_80 rfl ?_
      first
        | (rw [mpuF, if_pos rfl] at hM
           have hb : buildS T nh x y z = (-1, T) := by
             first
               | rw [buildS, if_neg (by rw [← hG.2.1, zI_0.mp c_38]; decide)]
               | rw [buildS, if_pos (by rw [← hG.2.1]; exact zI_1.mp c_38), if_neg (by rw [zI_0.mp c_50]; decide)]
               | rw [buildS, if_pos (by rw [← hG.2.1]; exact zI_1.mp c_38), if_pos (zI_1.mp c_50), hmo, if_neg (by rw [zI_0.mp c_62]; decide)]
           exact ⟨by rw [hb]; rfl, rfl, ⟨f, dd, hM, by rw [hb]; exact hG.1, hd9, fun _ _ => rfl⟩, hF⟩)
        | (have e9 : ((4 : Int32) * nI m + nI j).toNatClampNeg = 4 * m + j := (ixm (a := 4) (m := m) (c := j) (N := 426) (by omega) (by decide)).2
           rw [mpuF, if_neg (by decide), e9, i32_s0] at hM
           have hb : buildS T nh (nI j) (nI m) z = (T (hrI (nI m)) j, tup T (hrI (nI m)) j z) := by rw [buildS, if_pos h1, if_pos h2, if_pos h3, hjc]
           exact ⟨by rw [hb, if_neg (by decide), e9, Int32.add_zero, hG.1.1.hrow (by omega) hj], rfl, ⟨_, dd, hM, by rw [hb]; exact hG.1.build (by omega) hj h3, hd9, fun q hq => pk_un (by omega)⟩, hF⟩)
    · refine st_iload_n (q := 42) dX7_build_41 rfl rfl rfl ?_
      refine st_i2l (q := 43) dX7_build_42 rfl ?_
      refine st_lconst (q := 44) dX7_build_43 rfl lc_0 ?_
      refine st_ldc2 (q := 47) dX7_build_44 rfl cn_X7_179 ?_
      refine sp_S3 (q := 50) (M' := mX7_in) dX7_build_47 rfl ok_X7_in mk_X7_in ml_X7_46 ⟨Nat.le_of_ble_eq_true rfl, Nat.le_of_ble_eq_true rfl⟩ rfl (Nat.le_of_ble_eq_true rfl) ⟨rfl, rfl⟩ (c_X7_inI (a := 0) (c := 3) (by decide) (by decide)) ?_
      refine st_if_eq (q := 53) (tgt := 69) dX7_build_50 rfl rfl (fun c_50 => ?_) (fun c_50 => ?_)
      · refine st_iconst (q := 70) dX7_build_69 rfl ic_0 ?_
        refine st_iconst (q := 71) dX7_build_70 rfl ic_4 ?_
        refine st_iload_n (q := 72) dX7_build_71 rfl rfl rfl ?_
        refine st_imul (q := 73) dX7_build_72 rfl ?_
        refine st_iload_n (q := 74) dX7_build_73 rfl rfl rfl ?_
        refine st_iadd (q := 75) dX7_build_74 rfl ?_
        refine st_iload_n (q := 76) dX7_build_75 rfl rfl rfl ?_
        refine st_iconst (q := 77) dX7_build_76 rfl ic_0 ?_
        refine sm_V4 (q := 80) (M' := mX7_puts) dX7_build_77 rfl ok_X7_puts mk_X7_puts ml_X7_181 ⟨Nat.le_of_ble_eq_true rfl, Nat.le_of_ble_eq_true rfl⟩ rfl (Nat.le_of_ble_eq_true rfl) (g_rv hM rfl) ⟨rfl, rfl⟩ (c_X7_puts Fr.rf hM (by first | exact (fun z => absurd rfl z) | exact (fun _ => (ixm (a := 4) (m := m) (c := j) (by omega) (by decide)).1))) ?_
        intro _ n w h9 _
        obtain ⟨rfl, rfl, hM, hF_⟩ := h9
        replace hF := Fr.tr hF hF_
        refine st_ireturn dX7_build_80 rfl ?_
        first
          | (rw [mpuF, if_pos rfl] at hM
             have hb : buildS T nh x y z = (-1, T) := by
               first
                 | rw [buildS, if_neg (by rw [← hG.2.1, zI_0.mp c_38]; decide)]
                 | rw [buildS, if_pos (by rw [← hG.2.1]; exact zI_1.mp c_38), if_neg (by rw [zI_0.mp c_50]; decide)]
                 | rw [buildS, if_pos (by rw [← hG.2.1]; exact zI_1.mp c_38), if_pos (zI_1.mp c_50), hmo, if_neg (by rw [zI_0.mp c_62]; decide)]
             exact ⟨by rw [hb]; rfl, rfl, ⟨f, dd, hM, by rw [hb]; exact hG.1, hd9, fun _ _ => rfl⟩, hF⟩)
          | (have e9 : ((4 : Int32) * nI m + nI j).toNatClampNeg = 4 * m + j := (ixm (a := 4) (m := m) (c := j) (N := 426) (by omega) (by decide)).2
             rw [mpuF, if_neg (by decide), e9, i32_s0] at hM
             have hb : buildS T nh (nI j) (nI m) z = (T (hrI (nI m)) j, tup T (hrI (nI m)) j z) := by rw [buildS, if_pos h1, if_pos h2, if_pos h3, hjc]
             exact ⟨by rw [hb, if_neg (by decide), e9, Int32.add_zero, hG.1.1.hrow (by omega) hj], rfl, ⟨_, dd, hM, by rw [hb]; exact hG.1.build (by omega) hj h3, hd9, fun q hq => pk_un (by omega)⟩, hF⟩)
      · refine st_iload_n (q := 54) dX7_build_53 rfl rfl rfl ?_
        refine st_i2l (q := 55) dX7_build_54 rfl ?_
        refine st_lconst (q := 56) dX7_build_55 rfl lc_0 ?_
        refine st_iload (q := 58) dX7_build_56 rfl rfl ?_
        refine st_i2l (q := 59) dX7_build_58 rfl ?_
        refine sp_S3 (q := 62) (M' := mX7_in) dX7_build_59 rfl ok_X7_in mk_X7_in ml_X7_46 ⟨Nat.le_of_ble_eq_true rfl, Nat.le_of_ble_eq_true rfl⟩ rfl (Nat.le_of_ble_eq_true rfl) ⟨rfl, rfl⟩ (c_X7_inI (a := 0) (by decide) rfl) ?_
        refine st_if_eq (q := 65) (tgt := 69) dX7_build_62 rfl rfl (fun c_62 => ?_) (fun c_62 => ?_)
        · refine st_iconst (q := 70) dX7_build_69 rfl ic_0 ?_
          refine st_iconst (q := 71) dX7_build_70 rfl ic_4 ?_
          refine st_iload_n (q := 72) dX7_build_71 rfl rfl rfl ?_
          refine st_imul (q := 73) dX7_build_72 rfl ?_
          refine st_iload_n (q := 74) dX7_build_73 rfl rfl rfl ?_
          refine st_iadd (q := 75) dX7_build_74 rfl ?_
          refine st_iload_n (q := 76) dX7_build_75 rfl rfl rfl ?_
          refine st_iconst (q := 77) dX7_build_76 rfl ic_0 ?_
          refine sm_V4 (q := 80) (M' := mX7_puts) dX7_build_77 rfl ok_X7_puts mk_X7_puts ml_X7_181 ⟨Nat.le_of_ble_eq_true rfl, Nat.le_of_ble_eq_true rfl⟩ rfl (Nat.le_of_ble_eq_true rfl) (g_rv hM rfl) ⟨rfl, rfl⟩ (c_X7_puts Fr.rf hM (by first | exact (fun z => absurd rfl z) | exact (fun _ => (ixm (a := 4) (m := m) (c := j) (by omega) (by decide)).1))) ?_
          intro _ n w h9 _
          obtain ⟨rfl, rfl, hM, hF_⟩ := h9
          replace hF := Fr.tr hF hF_
          refine st_ireturn dX7_build_80 rfl ?_
          first
            | (rw [mpuF, if_pos rfl] at hM
               have hb : buildS T nh x y z = (-1, T) := by
                 first
                   | rw [buildS, if_neg (by rw [← hG.2.1, zI_0.mp c_38]; decide)]
                   | rw [buildS, if_pos (by rw [← hG.2.1]; exact zI_1.mp c_38), if_neg (by rw [zI_0.mp c_50]; decide)]
                   | rw [buildS, if_pos (by rw [← hG.2.1]; exact zI_1.mp c_38), if_pos (zI_1.mp c_50), hmo, if_neg (by rw [zI_0.mp c_62]; decide)]
               exact ⟨by rw [hb]; rfl, rfl, ⟨f, dd, hM, by rw [hb]; exact hG.1, hd9, fun _ _ => rfl⟩, hF⟩)
            | (have e9 : ((4 : Int32) * nI m + nI j).toNatClampNeg = 4 * m + j := (ixm (a := 4) (m := m) (c := j) (N := 426) (by omega) (by decide)).2
               rw [mpuF, if_neg (by decide), e9, i32_s0] at hM
               have hb : buildS T nh (nI j) (nI m) z = (T (hrI (nI m)) j, tup T (hrI (nI m)) j z) := by rw [buildS, if_pos h1, if_pos h2, if_pos h3, hjc]
               exact ⟨by rw [hb, if_neg (by decide), e9, Int32.add_zero, hG.1.1.hrow (by omega) hj], rfl, ⟨_, dd, hM, by rw [hb]; exact hG.1.build (by omega) hj h3, hd9, fun q hq => pk_un (by omega)⟩, hF⟩)
        · have hN9 := hG.1.1.hnh
          obtain ⟨j, hj, rfl⟩ := inI_ix (by rw [← hG.2.1]; exact zI_1.mp c_38) (by omega)
          have h1 : inI (nI j) 0 (nI nh - 1) = true := by rw [← hG.2.1]; exact zI_1.mp c_38
          have hjc : (nI j).toNatClampNeg = j := nI_clamp (by omega)
          have h3 : inI z 0 (moH y) = true := by rw [hmo]; exact zI_1.mp c_62
          obtain ⟨m, hm, rfl⟩ := inI_k (k := 3) (zI_1.mp c_50) (by decide)
          have h2 : inI (nI m) 0 3 = true := zI_1.mp c_50
          refine st_iconst (q := 66) dX7_build_65 rfl ic_1 ?_
          refine st_goto (q := 70) dX7_build_66 rfl ?_
          refine st_iconst (q := 71) dX7_build_70 rfl ic_4 ?_
          refine st_iload_n (q := 72) dX7_build_71 rfl rfl rfl ?_
          refine st_imul (q := 73) dX7_build_72 rfl ?_
          refine st_iload_n (q := 74) dX7_build_73 rfl rfl rfl ?_
          refine st_iadd (q := 75) dX7_build_74 rfl ?_
          refine st_iload_n (q := 76) dX7_build_75 rfl rfl rfl ?_
          refine st_iconst (q := 77) dX7_build_76 rfl ic_0 ?_
          refine sm_V4 (q := 80) (M' := mX7_puts) dX7_build_77 rfl ok_X7_puts mk_X7_puts ml_X7_181 ⟨Nat.le_of_ble_eq_true rfl, Nat.le_of_ble_eq_true rfl⟩ rfl (Nat.le_of_ble_eq_true rfl) (g_rv hM rfl) ⟨rfl, rfl⟩ (c_X7_puts Fr.rf hM (by first | exact (fun z => absurd rfl z) | exact (fun _ => (ixm (a := 4) (m := m) (c := j) (by omega) (by decide)).1))) ?_
          intro _ n w h9 _
          obtain ⟨rfl, rfl, hM, hF_⟩ := h9
          replace hF := Fr.tr hF hF_
          refine st_ireturn dX7_build_80 rfl ?_
          first
            | (rw [mpuF, if_pos rfl] at hM
               have hb : buildS T nh x y z = (-1, T) := by
                 first
                   | rw [buildS, if_neg (by rw [← hG.2.1, zI_0.mp c_38]; decide)]
                   | rw [buildS, if_pos (by rw [← hG.2.1]; exact zI_1.mp c_38), if_neg (by rw [zI_0.mp c_50]; decide)]
                   | rw [buildS, if_pos (by rw [← hG.2.1]; exact zI_1.mp c_38), if_pos (zI_1.mp c_50), hmo, if_neg (by rw [zI_0.mp c_62]; decide)]
               exact ⟨by rw [hb]; rfl, rfl, ⟨f, dd, hM, by rw [hb]; exact hG.1, hd9, fun _ _ => rfl⟩, hF⟩)
            | (have e9 : ((4 : Int32) * nI m + nI j).toNatClampNeg = 4 * m + j := (ixm (a := 4) (m := m) (c := j) (N := 426) (by omega) (by decide)).2
               rw [mpuF, if_neg (by decide), e9, i32_s0] at hM
               have hb : buildS T nh (nI j) (nI m) z = (T (hrI (nI m)) j, tup T (hrI (nI m)) j z) := by rw [buildS, if_pos h1, if_pos h2, if_pos h3, hjc]
               exact ⟨by rw [hb, if_neg (by decide), e9, Int32.add_zero, hG.1.1.hrow (by omega) hj], rfl, ⟨_, dd, hM, by rw [hb]; exact hG.1.build (by omega) hj h3, hd9, fun q hq => pk_un (by omega)⟩, hF⟩)
set_option maxRecDepth 100000 in
set_option maxHeartbeats 4000000 in
theorem c_X7_alter {E : ev_E} {n : Nat} {w : ev_W} {S : gT} {f : Nat → Int32} {w0 : ev_W} (hF : Fr 70 82 w0 w) (hM : MR S f 70 n w) {T : gT} {nh nt dd : Nat} (hG : GQ S f T nh nt dd) {x y z : Int32} : Ct E mX7_alter [.ref 70, .int x, .int y, .int z] n w (ev_mr ((alterS T nt x y z).1) n w0 (CR S f (alterS T nt x y z).2 nh nt n)) := by
  refine Ct.of 1 (by decide) (Nat.le_of_ble_eq_true rfl) rfl ?_
  have hd9 := hG.2.2.2
  have fin : ∀ (g : Int32), (g = 0 → ((y = 0 ∧ inI z 0 3 = false) ∨ (y = 1 ∧ inI z 1 9 = false) ∨ (y = 2 ∧ inI z 0 9 = false) ∨ (¬ y = 0 ∧ ¬ y = 1 ∧ ¬ y = 2))) → (¬ g = 0 → ((y = 0 ∧ inI z 0 3 = true) ∨ (y = 1 ∧ inI z 1 9 = true) ∨ (y = 2 ∧ inI z 0 9 = true))) → Ev E mX7_alter 55 [some (.ref 70), some (.int x), some (.int y), some (.int z), none] [.int g] n w (0, 0) (ev_mr ((alterS T nt x y z).1) n w0 (CR S f (alterS T nt x y z).2 nh nt n)) := by
    intro g hbd hgd
    refine st_istore (q := 57) (L' := [_, _, _, _, _]) dX7_alter_55 rfl (Nat.le_of_ble_eq_true rfl) rfl ?_
    refine st_aload_n (q := 58) dX7_alter_57 rfl rfl rfl ?_
    refine st_aload_n (q := 59) dX7_alter_58 rfl rfl rfl ?_
    refine st_iload_n (q := 60) dX7_alter_59 rfl rfl rfl ?_
    refine sp_V1 (q := 63) (M' := mX7_isThing) dX7_alter_60 rfl ok_X7_isThing mk_X7_isThing ml_X7_176 ⟨Nat.le_of_ble_eq_true rfl, Nat.le_of_ble_eq_true rfl⟩ rfl (Nat.le_of_ble_eq_true rfl) (g_rv hM rfl) ⟨rfl, rfl⟩ (c_X7_isThing hM) ?_
    refine st_if_eq (q := 66) (tgt := 75) dX7_alter_63 rfl rfl (fun c_63 => ?_) (fun c_63 => ?_)
    · refine st_iconst (q := 76) dX7_alter_75 rfl ic_0 ?_
      refine st_iload_n (q := 77) dX7_alter_76 rfl rfl rfl ?_
      refine st_if_ne (q := 80) (tgt := 87) dX7_alter_77 rfl rfl (fun c_77 => ?_) (fun c_77 => ?_)
      · refine st_bipush (q := 89) dX7_alter_87 rfl bp_36 ?_
        refine st_bipush (q := 91) dX7_alter_89 rfl bp_8 ?_
        refine st_iload_n (q := 92) dX7_alter_91 rfl rfl rfl ?_
        refine st_iconst (q := 93) dX7_alter_92 rfl ic_1 ?_
        refine st_isub (q := 94) dX7_alter_93 rfl ?_
        refine st_imul (q := 95) dX7_alter_94 rfl ?_
        refine st_iadd (q := 96) dX7_alter_95 rfl ?_
        refine st_iload_n (q := 97) dX7_alter_96 rfl rfl rfl ?_
        refine st_iadd (q := 98) dX7_alter_97 rfl ?_
        refine st_iload_n (q := 99) dX7_alter_98 rfl rfl rfl ?_
        refine st_iconst (q := 100) dX7_alter_99 rfl ic_0 ?_
        refine sm_V4 (q := 103) (M' := mX7_puts) dX7_alter_100 rfl ok_X7_puts mk_X7_puts ml_X7_181 ⟨Nat.le_of_ble_eq_true rfl, Nat.le_of_ble_eq_true rfl⟩ rfl (Nat.le_of_ble_eq_true rfl) (g_rv hM rfl) ⟨rfl, rfl⟩ (c_X7_puts Fr.rf hM (by
          first
            | exact (fun z => absurd rfl z)
            | exact (fun _ => (ix2 (a := 20) (b := j) (by omega) (by decide)).1)
            | (intro _
               rcases hy with ⟨e, _⟩ | ⟨e, _⟩ | ⟨e, _⟩
               · exact absurd e c_77
               · rw [e, show (36 : Int32) + 8 * (1 - 1) = nI 36 from by decide]; exact (ix2 (a := 36) (b := j) (by omega) (by decide)).1
               · rw [e, show (36 : Int32) + 8 * (2 - 1) = nI 44 from by decide]; exact (ix2 (a := 44) (b := j) (by omega) (by decide)).1))) ?_
        intro _ n w h9 _
        obtain ⟨rfl, rfl, hM, hF_⟩ := h9
        replace hF := Fr.tr hF hF_
        refine st_ireturn dX7_alter_103 rfl ?_
        first
          | (rw [mpuF, if_pos rfl] at hM
             have hb : alterS T nt x y z = (-1, T) := alter_bad (by
               first
                 | exact Or.inl (by rw [← hG.2.2.1]; exact zI_0.mp c_63)
                 | exact Or.inr (hbd c_68))
             exact ⟨by rw [hb]; rfl, rfl, ⟨f, dd, hM, by rw [hb]; exact hG.1, hd9, fun _ _ => rfl⟩, hF⟩)
          | (rcases hy with ⟨e, hz⟩ | ⟨e, hz⟩ | ⟨e, hz⟩
             · first
                 | exact absurd e c_77
                 | (subst e
                    have e9 : ((20 : Int32) + nI j).toNatClampNeg = 20 + j := by rw [show (20 : Int32) = nI 20 from by decide]; exact (ix2 (a := 20) (b := j) (N := 426) (by omega) (by decide)).2
                    rw [mpuF, if_neg (by decide), e9, i32_s0] at hM
                    have hb : alterS T nt (nI j) 0 z = (T 7 j, tup T 7 j z) := by rw [alterS, if_pos h1, if_pos (by decide), if_pos (show inI z (leT 0) (moT 0) = true from hz), hjc]; rfl
                    have hr := (hG.1.1.is hj).1
                    rw [Nat.zero_add] at hr
                    exact ⟨by rw [hb, if_neg (by decide), e9, Int32.add_zero, ← hr], rfl, ⟨_, dd, hM, by rw [hb]; have := hG.1.set7 hj (rg_in (a := 0) (b := 3) hz (by decide) (by decide)); rw [Nat.zero_add] at this; exact this, hd9, fun q hq => pk_un (by omega)⟩, hF⟩)
             · first
                 | (exfalso; rw [c_77] at e; exact absurd e (by decide))
                 | (subst e
                    have e9 : ((36 : Int32) + 8 * (1 - 1) + nI j).toNatClampNeg = 36 + j := by rw [show (36 : Int32) + 8 * (1 - 1) = nI 36 from by decide]; exact (ix2 (a := 36) (b := j) (N := 426) (by omega) (by decide)).2
                    rw [mpuF, if_neg (by decide), e9, i32_s0] at hM
                    have hb : alterS T nt (nI j) 1 z = (T 9 j, tup T 9 j z) := by rw [alterS, if_pos h1, if_pos (by decide), if_pos (show inI z (leT 1) (moT 1) = true from hz), hjc]; rfl
                    have hr := (hG.1.1.is hj).2.2.1
                    rw [Nat.zero_add] at hr
                    exact ⟨by rw [hb, if_neg (by decide), e9, Int32.add_zero, ← hr], rfl, ⟨_, dd, hM, by rw [hb]; have := hG.1.set9 hj (rg_in (a := 1) (b := 9) hz (by decide) (by decide)); rw [Nat.zero_add] at this; exact this, hd9, fun q hq => pk_un (by omega)⟩, hF⟩)
             · first
                 | (exfalso; rw [c_77] at e; exact absurd e (by decide))
                 | (subst e
                    have e9 : ((36 : Int32) + 8 * (2 - 1) + nI j).toNatClampNeg = 44 + j := by rw [show (36 : Int32) + 8 * (2 - 1) = nI 44 from by decide]; exact (ix2 (a := 44) (b := j) (N := 426) (by omega) (by decide)).2
                    rw [mpuF, if_neg (by decide), e9, i32_s0] at hM
                    have hb : alterS T nt (nI j) 2 z = (T 10 j, tup T 10 j z) := by rw [alterS, if_pos h1, if_pos (by decide), if_pos (show inI z (leT 2) (moT 2) = true from hz), hjc]; rfl
                    have hr := (hG.1.1.is hj).2.2.2.1
                    rw [Nat.zero_add] at hr
                    exact ⟨by rw [hb, if_neg (by decide), e9, Int32.add_zero, ← hr], rfl, ⟨_, dd, hM, by rw [hb]; have := hG.1.set10 hj (rg_in (a := 0) (b := 9) hz (by decide) (by decide)); rw [Nat.zero_add] at this; exact this, hd9, fun q hq => pk_un (by omega)⟩, hF⟩))
      · refine st_bipush (q := 82) dX7_alter_80 rfl bp_20 ?_
        refine st_iload_n (q := 83) dX7_alter_82 rfl rfl rfl ?_
        refine st_iadd (q := 84) dX7_alter_83 rfl ?_
        refine st_goto (q := 98) dX7_alter_84 rfl ?_
        refine st_iload_n (q := 99) dX7_alter_98 rfl rfl rfl ?_
        refine st_iconst (q := 100) dX7_alter_99 rfl ic_0 ?_
        refine sm_V4 (q := 103) (M' := mX7_puts) dX7_alter_100 rfl ok_X7_puts mk_X7_puts ml_X7_181 ⟨Nat.le_of_ble_eq_true rfl, Nat.le_of_ble_eq_true rfl⟩ rfl (Nat.le_of_ble_eq_true rfl) (g_rv hM rfl) ⟨rfl, rfl⟩ (c_X7_puts Fr.rf hM (by
          first
            | exact (fun z => absurd rfl z)
            | exact (fun _ => (ix2 (a := 20) (b := j) (by omega) (by decide)).1)
            | (intro _
               rcases hy with ⟨e, _⟩ | ⟨e, _⟩ | ⟨e, _⟩
               · exact absurd e c_77
               · rw [e, show (36 : Int32) + 8 * (1 - 1) = nI 36 from by decide]; exact (ix2 (a := 36) (b := j) (by omega) (by decide)).1
               · rw [e, show (36 : Int32) + 8 * (2 - 1) = nI 44 from by decide]; exact (ix2 (a := 44) (b := j) (by omega) (by decide)).1))) ?_
        intro _ n w h9 _
        obtain ⟨rfl, rfl, hM, hF_⟩ := h9
        replace hF := Fr.tr hF hF_
        refine st_ireturn dX7_alter_103 rfl ?_
        first
          | (rw [mpuF, if_pos rfl] at hM
             have hb : alterS T nt x y z = (-1, T) := alter_bad (by
               first
                 | exact Or.inl (by rw [← hG.2.2.1]; exact zI_0.mp c_63)
                 | exact Or.inr (hbd c_68))
             exact ⟨by rw [hb]; rfl, rfl, ⟨f, dd, hM, by rw [hb]; exact hG.1, hd9, fun _ _ => rfl⟩, hF⟩)
          | (rcases hy with ⟨e, hz⟩ | ⟨e, hz⟩ | ⟨e, hz⟩
             · first
                 | exact absurd e c_77
                 | (subst e
                    have e9 : ((20 : Int32) + nI j).toNatClampNeg = 20 + j := by rw [show (20 : Int32) = nI 20 from by decide]; exact (ix2 (a := 20) (b := j) (N := 426) (by omega) (by decide)).2
                    rw [mpuF, if_neg (by decide), e9, i32_s0] at hM
                    have hb : alterS T nt (nI j) 0 z = (T 7 j, tup T 7 j z) := by rw [alterS, if_pos h1, if_pos (by decide), if_pos (show inI z (leT 0) (moT 0) = true from hz), hjc]; rfl
                    have hr := (hG.1.1.is hj).1
                    rw [Nat.zero_add] at hr
                    exact ⟨by rw [hb, if_neg (by decide), e9, Int32.add_zero, ← hr], rfl, ⟨_, dd, hM, by rw [hb]; have := hG.1.set7 hj (rg_in (a := 0) (b := 3) hz (by decide) (by decide)); rw [Nat.zero_add] at this; exact this, hd9, fun q hq => pk_un (by omega)⟩, hF⟩)
             · first
                 | (exfalso; rw [c_77] at e; exact absurd e (by decide))
                 | (subst e
                    have e9 : ((36 : Int32) + 8 * (1 - 1) + nI j).toNatClampNeg = 36 + j := by rw [show (36 : Int32) + 8 * (1 - 1) = nI 36 from by decide]; exact (ix2 (a := 36) (b := j) (N := 426) (by omega) (by decide)).2
                    rw [mpuF, if_neg (by decide), e9, i32_s0] at hM
                    have hb : alterS T nt (nI j) 1 z = (T 9 j, tup T 9 j z) := by rw [alterS, if_pos h1, if_pos (by decide), if_pos (show inI z (leT 1) (moT 1) = true from hz), hjc]; rfl
                    have hr := (hG.1.1.is hj).2.2.1
                    rw [Nat.zero_add] at hr
                    exact ⟨by rw [hb, if_neg (by decide), e9, Int32.add_zero, ← hr], rfl, ⟨_, dd, hM, by rw [hb]; have := hG.1.set9 hj (rg_in (a := 1) (b := 9) hz (by decide) (by decide)); rw [Nat.zero_add] at this; exact this, hd9, fun q hq => pk_un (by omega)⟩, hF⟩)
             · first
                 | (exfalso; rw [c_77] at e; exact absurd e (by decide))
                 | (subst e
                    have e9 : ((36 : Int32) + 8 * (2 - 1) + nI j).toNatClampNeg = 44 + j := by rw [show (36 : Int32) + 8 * (2 - 1) = nI 44 from by decide]; exact (ix2 (a := 44) (b := j) (N := 426) (by omega) (by decide)).2
                    rw [mpuF, if_neg (by decide), e9, i32_s0] at hM
                    have hb : alterS T nt (nI j) 2 z = (T 10 j, tup T 10 j z) := by rw [alterS, if_pos h1, if_pos (by decide), if_pos (show inI z (leT 2) (moT 2) = true from hz), hjc]; rfl
                    have hr := (hG.1.1.is hj).2.2.2.1
                    rw [Nat.zero_add] at hr
                    exact ⟨by rw [hb, if_neg (by decide), e9, Int32.add_zero, ← hr], rfl, ⟨_, dd, hM, by rw [hb]; have := hG.1.set10 hj (rg_in (a := 0) (b := 9) hz (by decide) (by decide)); rw [Nat.zero_add] at this; exact this, hd9, fun q hq => pk_un (by omega)⟩, hF⟩))
    · refine st_iload (q := 68) dX7_alter_66 rfl rfl ?_
      refine st_if_eq (q := 71) (tgt := 75) dX7_alter_68 rfl rfl (fun c_68 => ?_) (fun c_68 => ?_)
      · refine st_iconst (q := 76) dX7_alter_75 rfl ic_0 ?_
        refine st_iload_n (q := 77) dX7_alter_76 rfl rfl rfl ?_
        refine st_if_ne (q := 80) (tgt := 87) dX7_alter_77 rfl rfl (fun c_77 => ?_) (fun c_77 => ?_)
        · refine st_bipush (q := 89) dX7_alter_87 rfl bp_36 ?_
          refine st_bipush (q := 91) dX7_alter_89 rfl bp_8 ?_
          refine st_iload_n (q := 92) dX7_alter_91 rfl rfl rfl ?_
          refine st_iconst (q := 93) dX7_alter_92 rfl ic_1 ?_
          refine st_isub (q := 94) dX7_alter_93 rfl ?_
          refine st_imul (q := 95) dX7_alter_94 rfl ?_
          refine st_iadd (q := 96) dX7_alter_95 rfl ?_
          refine st_iload_n (q := 97) dX7_alter_96 rfl rfl rfl ?_
          refine st_iadd (q := 98) dX7_alter_97 rfl ?_
          refine st_iload_n (q := 99) dX7_alter_98 rfl rfl rfl ?_
          refine st_iconst (q := 100) dX7_alter_99 rfl ic_0 ?_
          refine sm_V4 (q := 103) (M' := mX7_puts) dX7_alter_100 rfl ok_X7_puts mk_X7_puts ml_X7_181 ⟨Nat.le_of_ble_eq_true rfl, Nat.le_of_ble_eq_true rfl⟩ rfl (Nat.le_of_ble_eq_true rfl) (g_rv hM rfl) ⟨rfl, rfl⟩ (c_X7_puts Fr.rf hM (by
          first
            | exact (fun z => absurd rfl z)
            | exact (fun _ => (ix2 (a := 20) (b := j) (by omega) (by decide)).1)
            | (intro _
               rcases hy with ⟨e, _⟩ | ⟨e, _⟩ | ⟨e, _⟩
               · exact absurd e c_77
               · rw [e, show (36 : Int32) + 8 * (1 - 1) = nI 36 from by decide]; exact (ix2 (a := 36) (b := j) (by omega) (by decide)).1
               · rw [e, show (36 : Int32) + 8 * (2 - 1) = nI 44 from by decide]; exact (ix2 (a := 44) (b := j) (by omega) (by decide)).1))) ?_
          intro _ n w h9 _
          obtain ⟨rfl, rfl, hM, hF_⟩ := h9
          replace hF := Fr.tr hF hF_
          refine st_ireturn dX7_alter_103 rfl ?_
          first
            | (rw [mpuF, if_pos rfl] at hM
               have hb : alterS T nt x y z = (-1, T) := alter_bad (by
                 first
                   | exact Or.inl (by rw [← hG.2.2.1]; exact zI_0.mp c_63)
                   | exact Or.inr (hbd c_68))
               exact ⟨by rw [hb]; rfl, rfl, ⟨f, dd, hM, by rw [hb]; exact hG.1, hd9, fun _ _ => rfl⟩, hF⟩)
            | (rcases hy with ⟨e, hz⟩ | ⟨e, hz⟩ | ⟨e, hz⟩
               · first
                   | exact absurd e c_77
                   | (subst e
                      have e9 : ((20 : Int32) + nI j).toNatClampNeg = 20 + j := by rw [show (20 : Int32) = nI 20 from by decide]; exact (ix2 (a := 20) (b := j) (N := 426) (by omega) (by decide)).2
                      rw [mpuF, if_neg (by decide), e9, i32_s0] at hM
                      have hb : alterS T nt (nI j) 0 z = (T 7 j, tup T 7 j z) := by rw [alterS, if_pos h1, if_pos (by decide), if_pos (show inI z (leT 0) (moT 0) = true from hz), hjc]; rfl
                      have hr := (hG.1.1.is hj).1
                      rw [Nat.zero_add] at hr
                      exact ⟨by rw [hb, if_neg (by decide), e9, Int32.add_zero, ← hr], rfl, ⟨_, dd, hM, by rw [hb]; have := hG.1.set7 hj (rg_in (a := 0) (b := 3) hz (by decide) (by decide)); rw [Nat.zero_add] at this; exact this, hd9, fun q hq => pk_un (by omega)⟩, hF⟩)
               · first
                   | (exfalso; rw [c_77] at e; exact absurd e (by decide))
                   | (subst e
                      have e9 : ((36 : Int32) + 8 * (1 - 1) + nI j).toNatClampNeg = 36 + j := by rw [show (36 : Int32) + 8 * (1 - 1) = nI 36 from by decide]; exact (ix2 (a := 36) (b := j) (N := 426) (by omega) (by decide)).2
                      rw [mpuF, if_neg (by decide), e9, i32_s0] at hM
                      have hb : alterS T nt (nI j) 1 z = (T 9 j, tup T 9 j z) := by rw [alterS, if_pos h1, if_pos (by decide), if_pos (show inI z (leT 1) (moT 1) = true from hz), hjc]; rfl
                      have hr := (hG.1.1.is hj).2.2.1
                      rw [Nat.zero_add] at hr
                      exact ⟨by rw [hb, if_neg (by decide), e9, Int32.add_zero, ← hr], rfl, ⟨_, dd, hM, by rw [hb]; have := hG.1.set9 hj (rg_in (a := 1) (b := 9) hz (by decide) (by decide)); rw [Nat.zero_add] at this; exact this, hd9, fun q hq => pk_un (by omega)⟩, hF⟩)
               · first
                   | (exfalso; rw [c_77] at e; exact absurd e (by decide))
                   | (subst e
                      have e9 : ((36 : Int32) + 8 * (2 - 1) + nI j).toNatClampNeg = 44 + j := by rw [show (36 : Int32) + 8 * (2 - 1) = nI 44 from by decide]; exact (ix2 (a := 44) (b := j) (N := 426) (by omega) (by decide)).2
                      rw [mpuF, if_neg (by decide), e9, i32_s0] at hM
                      have hb : alterS T nt (nI j) 2 z = (T 10 j, tup T 10 j z) := by rw [alterS, if_pos h1, if_pos (by decide), if_pos (show inI z (leT 2) (moT 2) = true from hz), hjc]; rfl
                      have hr := (hG.1.1.is hj).2.2.2.1
                      rw [Nat.zero_add] at hr
                      exact ⟨by rw [hb, if_neg (by decide), e9, Int32.add_zero, ← hr], rfl, ⟨_, dd, hM, by rw [hb]; have := hG.1.set10 hj (rg_in (a := 0) (b := 9) hz (by decide) (by decide)); rw [Nat.zero_add] at this; exact this, hd9, fun q hq => pk_un (by omega)⟩, hF⟩))
        · refine st_bipush (q := 82) dX7_alter_80 rfl bp_20 ?_
          refine st_iload_n (q := 83) dX7_alter_82 rfl rfl rfl ?_
          refine st_iadd (q := 84) dX7_alter_83 rfl ?_
          refine st_goto (q := 98) dX7_alter_84 rfl ?_
          refine st_iload_n (q := 99) dX7_alter_98 rfl rfl rfl ?_
          refine st_iconst (q := 100) dX7_alter_99 rfl ic_0 ?_
          refine sm_V4 (q := 103) (M' := mX7_puts) dX7_alter_100 rfl ok_X7_puts mk_X7_puts ml_X7_181 ⟨Nat.le_of_ble_eq_true rfl, Nat.le_of_ble_eq_true rfl⟩ rfl (Nat.le_of_ble_eq_true rfl) (g_rv hM rfl) ⟨rfl, rfl⟩ (c_X7_puts Fr.rf hM (by
          first
            | exact (fun z => absurd rfl z)
            | exact (fun _ => (ix2 (a := 20) (b := j) (by omega) (by decide)).1)
            | (intro _
               rcases hy with ⟨e, _⟩ | ⟨e, _⟩ | ⟨e, _⟩
               · exact absurd e c_77
               · rw [e, show (36 : Int32) + 8 * (1 - 1) = nI 36 from by decide]; exact (ix2 (a := 36) (b := j) (by omega) (by decide)).1
               · rw [e, show (36 : Int32) + 8 * (2 - 1) = nI 44 from by decide]; exact (ix2 (a := 44) (b := j) (by omega) (by decide)).1))) ?_
          intro _ n w h9 _
          obtain ⟨rfl, rfl, hM, hF_⟩ := h9
          replace hF := Fr.tr hF hF_
          refine st_ireturn dX7_alter_103 rfl ?_
          first
            | (rw [mpuF, if_pos rfl] at hM
               have hb : alterS T nt x y z = (-1, T) := alter_bad (by
                 first
                   | exact Or.inl (by rw [← hG.2.2.1]; exact zI_0.mp c_63)
                   | exact Or.inr (hbd c_68))
               exact ⟨by rw [hb]; rfl, rfl, ⟨f, dd, hM, by rw [hb]; exact hG.1, hd9, fun _ _ => rfl⟩, hF⟩)
            | (rcases hy with ⟨e, hz⟩ | ⟨e, hz⟩ | ⟨e, hz⟩
               · first
                   | exact absurd e c_77
                   | (subst e
                      have e9 : ((20 : Int32) + nI j).toNatClampNeg = 20 + j := by rw [show (20 : Int32) = nI 20 from by decide]; exact (ix2 (a := 20) (b := j) (N := 426) (by omega) (by decide)).2
                      rw [mpuF, if_neg (by decide), e9, i32_s0] at hM
                      have hb : alterS T nt (nI j) 0 z = (T 7 j, tup T 7 j z) := by rw [alterS, if_pos h1, if_pos (by decide), if_pos (show inI z (leT 0) (moT 0) = true from hz), hjc]; rfl
                      have hr := (hG.1.1.is hj).1
                      rw [Nat.zero_add] at hr
                      exact ⟨by rw [hb, if_neg (by decide), e9, Int32.add_zero, ← hr], rfl, ⟨_, dd, hM, by rw [hb]; have := hG.1.set7 hj (rg_in (a := 0) (b := 3) hz (by decide) (by decide)); rw [Nat.zero_add] at this; exact this, hd9, fun q hq => pk_un (by omega)⟩, hF⟩)
               · first
                   | (exfalso; rw [c_77] at e; exact absurd e (by decide))
                   | (subst e
                      have e9 : ((36 : Int32) + 8 * (1 - 1) + nI j).toNatClampNeg = 36 + j := by rw [show (36 : Int32) + 8 * (1 - 1) = nI 36 from by decide]; exact (ix2 (a := 36) (b := j) (N := 426) (by omega) (by decide)).2
                      rw [mpuF, if_neg (by decide), e9, i32_s0] at hM
                      have hb : alterS T nt (nI j) 1 z = (T 9 j, tup T 9 j z) := by rw [alterS, if_pos h1, if_pos (by decide), if_pos (show inI z (leT 1) (moT 1) = true from hz), hjc]; rfl
                      have hr := (hG.1.1.is hj).2.2.1
                      rw [Nat.zero_add] at hr
                      exact ⟨by rw [hb, if_neg (by decide), e9, Int32.add_zero, ← hr], rfl, ⟨_, dd, hM, by rw [hb]; have := hG.1.set9 hj (rg_in (a := 1) (b := 9) hz (by decide) (by decide)); rw [Nat.zero_add] at this; exact this, hd9, fun q hq => pk_un (by omega)⟩, hF⟩)
               · first
                   | (exfalso; rw [c_77] at e; exact absurd e (by decide))
                   | (subst e
                      have e9 : ((36 : Int32) + 8 * (2 - 1) + nI j).toNatClampNeg = 44 + j := by rw [show (36 : Int32) + 8 * (2 - 1) = nI 44 from by decide]; exact (ix2 (a := 44) (b := j) (N := 426) (by omega) (by decide)).2
                      rw [mpuF, if_neg (by decide), e9, i32_s0] at hM
                      have hb : alterS T nt (nI j) 2 z = (T 10 j, tup T 10 j z) := by rw [alterS, if_pos h1, if_pos (by decide), if_pos (show inI z (leT 2) (moT 2) = true from hz), hjc]; rfl
                      have hr := (hG.1.1.is hj).2.2.2.1
                      rw [Nat.zero_add] at hr
                      exact ⟨by rw [hb, if_neg (by decide), e9, Int32.add_zero, ← hr], rfl, ⟨_, dd, hM, by rw [hb]; have := hG.1.set10 hj (rg_in (a := 0) (b := 9) hz (by decide) (by decide)); rw [Nat.zero_add] at this; exact this, hd9, fun q hq => pk_un (by omega)⟩, hF⟩))
      · have hN9 := hG.1.1.hnt
        obtain ⟨j, hj, rfl⟩ := inI_ix (by rw [← hG.2.2.1]; exact zI_1.mp c_63) (by omega)
        have h1 : inI (nI j) 0 (nI nt - 1) = true := by rw [← hG.2.2.1]; exact zI_1.mp c_63
        have hjc : (nI j).toNatClampNeg = j := nI_clamp (by omega)
        have hy := hgd c_68
        refine st_iconst (q := 72) dX7_alter_71 rfl ic_1 ?_
        refine st_goto (q := 76) dX7_alter_72 rfl ?_
        refine st_iload_n (q := 77) dX7_alter_76 rfl rfl rfl ?_
        refine st_if_ne (q := 80) (tgt := 87) dX7_alter_77 rfl rfl (fun c_77 => ?_) (fun c_77 => ?_)
        · refine st_bipush (q := 89) dX7_alter_87 rfl bp_36 ?_
          refine st_bipush (q := 91) dX7_alter_89 rfl bp_8 ?_
          refine st_iload_n (q := 92) dX7_alter_91 rfl rfl rfl ?_
          refine st_iconst (q := 93) dX7_alter_92 rfl ic_1 ?_
          refine st_isub (q := 94) dX7_alter_93 rfl ?_
          refine st_imul (q := 95) dX7_alter_94 rfl ?_
          refine st_iadd (q := 96) dX7_alter_95 rfl ?_
          refine st_iload_n (q := 97) dX7_alter_96 rfl rfl rfl ?_
          refine st_iadd (q := 98) dX7_alter_97 rfl ?_
          refine st_iload_n (q := 99) dX7_alter_98 rfl rfl rfl ?_
          refine st_iconst (q := 100) dX7_alter_99 rfl ic_0 ?_
          refine sm_V4 (q := 103) (M' := mX7_puts) dX7_alter_100 rfl ok_X7_puts mk_X7_puts ml_X7_181 ⟨Nat.le_of_ble_eq_true rfl, Nat.le_of_ble_eq_true rfl⟩ rfl (Nat.le_of_ble_eq_true rfl) (g_rv hM rfl) ⟨rfl, rfl⟩ (c_X7_puts Fr.rf hM (by
          first
            | exact (fun z => absurd rfl z)
            | exact (fun _ => (ix2 (a := 20) (b := j) (by omega) (by decide)).1)
            | (intro _
               rcases hy with ⟨e, _⟩ | ⟨e, _⟩ | ⟨e, _⟩
               · exact absurd e c_77
               · rw [e, show (36 : Int32) + 8 * (1 - 1) = nI 36 from by decide]; exact (ix2 (a := 36) (b := j) (by omega) (by decide)).1
               · rw [e, show (36 : Int32) + 8 * (2 - 1) = nI 44 from by decide]; exact (ix2 (a := 44) (b := j) (by omega) (by decide)).1))) ?_
          intro _ n w h9 _
          obtain ⟨rfl, rfl, hM, hF_⟩ := h9
          replace hF := Fr.tr hF hF_
          refine st_ireturn dX7_alter_103 rfl ?_
          first
            | (rw [mpuF, if_pos rfl] at hM
               have hb : alterS T nt x y z = (-1, T) := alter_bad (by
                 first
                   | exact Or.inl (by rw [← hG.2.2.1]; exact zI_0.mp c_63)
                   | exact Or.inr (hbd c_68))
               exact ⟨by rw [hb]; rfl, rfl, ⟨f, dd, hM, by rw [hb]; exact hG.1, hd9, fun _ _ => rfl⟩, hF⟩)
            | (rcases hy with ⟨e, hz⟩ | ⟨e, hz⟩ | ⟨e, hz⟩
               · first
                   | exact absurd e c_77
                   | (subst e
                      have e9 : ((20 : Int32) + nI j).toNatClampNeg = 20 + j := by rw [show (20 : Int32) = nI 20 from by decide]; exact (ix2 (a := 20) (b := j) (N := 426) (by omega) (by decide)).2
                      rw [mpuF, if_neg (by decide), e9, i32_s0] at hM
                      have hb : alterS T nt (nI j) 0 z = (T 7 j, tup T 7 j z) := by rw [alterS, if_pos h1, if_pos (by decide), if_pos (show inI z (leT 0) (moT 0) = true from hz), hjc]; rfl
                      have hr := (hG.1.1.is hj).1
                      rw [Nat.zero_add] at hr
                      exact ⟨by rw [hb, if_neg (by decide), e9, Int32.add_zero, ← hr], rfl, ⟨_, dd, hM, by rw [hb]; have := hG.1.set7 hj (rg_in (a := 0) (b := 3) hz (by decide) (by decide)); rw [Nat.zero_add] at this; exact this, hd9, fun q hq => pk_un (by omega)⟩, hF⟩)
               · first
                   | (exfalso; rw [c_77] at e; exact absurd e (by decide))
                   | (subst e
                      have e9 : ((36 : Int32) + 8 * (1 - 1) + nI j).toNatClampNeg = 36 + j := by rw [show (36 : Int32) + 8 * (1 - 1) = nI 36 from by decide]; exact (ix2 (a := 36) (b := j) (N := 426) (by omega) (by decide)).2
                      rw [mpuF, if_neg (by decide), e9, i32_s0] at hM
                      have hb : alterS T nt (nI j) 1 z = (T 9 j, tup T 9 j z) := by rw [alterS, if_pos h1, if_pos (by decide), if_pos (show inI z (leT 1) (moT 1) = true from hz), hjc]; rfl
                      have hr := (hG.1.1.is hj).2.2.1
                      rw [Nat.zero_add] at hr
                      exact ⟨by rw [hb, if_neg (by decide), e9, Int32.add_zero, ← hr], rfl, ⟨_, dd, hM, by rw [hb]; have := hG.1.set9 hj (rg_in (a := 1) (b := 9) hz (by decide) (by decide)); rw [Nat.zero_add] at this; exact this, hd9, fun q hq => pk_un (by omega)⟩, hF⟩)
               · first
                   | (exfalso; rw [c_77] at e; exact absurd e (by decide))
                   | (subst e
                      have e9 : ((36 : Int32) + 8 * (2 - 1) + nI j).toNatClampNeg = 44 + j := by rw [show (36 : Int32) + 8 * (2 - 1) = nI 44 from by decide]; exact (ix2 (a := 44) (b := j) (N := 426) (by omega) (by decide)).2
                      rw [mpuF, if_neg (by decide), e9, i32_s0] at hM
                      have hb : alterS T nt (nI j) 2 z = (T 10 j, tup T 10 j z) := by rw [alterS, if_pos h1, if_pos (by decide), if_pos (show inI z (leT 2) (moT 2) = true from hz), hjc]; rfl
                      have hr := (hG.1.1.is hj).2.2.2.1
                      rw [Nat.zero_add] at hr
                      exact ⟨by rw [hb, if_neg (by decide), e9, Int32.add_zero, ← hr], rfl, ⟨_, dd, hM, by rw [hb]; have := hG.1.set10 hj (rg_in (a := 0) (b := 9) hz (by decide) (by decide)); rw [Nat.zero_add] at this; exact this, hd9, fun q hq => pk_un (by omega)⟩, hF⟩))
        · refine st_bipush (q := 82) dX7_alter_80 rfl bp_20 ?_
          refine st_iload_n (q := 83) dX7_alter_82 rfl rfl rfl ?_
          refine st_iadd (q := 84) dX7_alter_83 rfl ?_
          refine st_goto (q := 98) dX7_alter_84 rfl ?_
          refine st_iload_n (q := 99) dX7_alter_98 rfl rfl rfl ?_
          refine st_iconst (q := 100) dX7_alter_99 rfl ic_0 ?_
          refine sm_V4 (q := 103) (M' := mX7_puts) dX7_alter_100 rfl ok_X7_puts mk_X7_puts ml_X7_181 ⟨Nat.le_of_ble_eq_true rfl, Nat.le_of_ble_eq_true rfl⟩ rfl (Nat.le_of_ble_eq_true rfl) (g_rv hM rfl) ⟨rfl, rfl⟩ (c_X7_puts Fr.rf hM (by
          first
            | exact (fun z => absurd rfl z)
            | exact (fun _ => (ix2 (a := 20) (b := j) (by omega) (by decide)).1)
            | (intro _
               rcases hy with ⟨e, _⟩ | ⟨e, _⟩ | ⟨e, _⟩
               · exact absurd e c_77
               · rw [e, show (36 : Int32) + 8 * (1 - 1) = nI 36 from by decide]; exact (ix2 (a := 36) (b := j) (by omega) (by decide)).1
               · rw [e, show (36 : Int32) + 8 * (2 - 1) = nI 44 from by decide]; exact (ix2 (a := 44) (b := j) (by omega) (by decide)).1))) ?_
          intro _ n w h9 _
          obtain ⟨rfl, rfl, hM, hF_⟩ := h9
          replace hF := Fr.tr hF hF_
          refine st_ireturn dX7_alter_103 rfl ?_
          first
            | (rw [mpuF, if_pos rfl] at hM
               have hb : alterS T nt x y z = (-1, T) := alter_bad (by
                 first
                   | exact Or.inl (by rw [← hG.2.2.1]; exact zI_0.mp c_63)
                   | exact Or.inr (hbd c_68))
               exact ⟨by rw [hb]; rfl, rfl, ⟨f, dd, hM, by rw [hb]; exact hG.1, hd9, fun _ _ => rfl⟩, hF⟩)
            | (rcases hy with ⟨e, hz⟩ | ⟨e, hz⟩ | ⟨e, hz⟩
               · first
                   | exact absurd e c_77
                   | (subst e
                      have e9 : ((20 : Int32) + nI j).toNatClampNeg = 20 + j := by rw [show (20 : Int32) = nI 20 from by decide]; exact (ix2 (a := 20) (b := j) (N := 426) (by omega) (by decide)).2
                      rw [mpuF, if_neg (by decide), e9, i32_s0] at hM
                      have hb : alterS T nt (nI j) 0 z = (T 7 j, tup T 7 j z) := by rw [alterS, if_pos h1, if_pos (by decide), if_pos (show inI z (leT 0) (moT 0) = true from hz), hjc]; rfl
                      have hr := (hG.1.1.is hj).1
                      rw [Nat.zero_add] at hr
                      exact ⟨by rw [hb, if_neg (by decide), e9, Int32.add_zero, ← hr], rfl, ⟨_, dd, hM, by rw [hb]; have := hG.1.set7 hj (rg_in (a := 0) (b := 3) hz (by decide) (by decide)); rw [Nat.zero_add] at this; exact this, hd9, fun q hq => pk_un (by omega)⟩, hF⟩)
               · first
                   | (exfalso; rw [c_77] at e; exact absurd e (by decide))
                   | (subst e
                      have e9 : ((36 : Int32) + 8 * (1 - 1) + nI j).toNatClampNeg = 36 + j := by rw [show (36 : Int32) + 8 * (1 - 1) = nI 36 from by decide]; exact (ix2 (a := 36) (b := j) (N := 426) (by omega) (by decide)).2
                      rw [mpuF, if_neg (by decide), e9, i32_s0] at hM
                      have hb : alterS T nt (nI j) 1 z = (T 9 j, tup T 9 j z) := by rw [alterS, if_pos h1, if_pos (by decide), if_pos (show inI z (leT 1) (moT 1) = true from hz), hjc]; rfl
                      have hr := (hG.1.1.is hj).2.2.1
                      rw [Nat.zero_add] at hr
                      exact ⟨by rw [hb, if_neg (by decide), e9, Int32.add_zero, ← hr], rfl, ⟨_, dd, hM, by rw [hb]; have := hG.1.set9 hj (rg_in (a := 1) (b := 9) hz (by decide) (by decide)); rw [Nat.zero_add] at this; exact this, hd9, fun q hq => pk_un (by omega)⟩, hF⟩)
               · first
                   | (exfalso; rw [c_77] at e; exact absurd e (by decide))
                   | (subst e
                      have e9 : ((36 : Int32) + 8 * (2 - 1) + nI j).toNatClampNeg = 44 + j := by rw [show (36 : Int32) + 8 * (2 - 1) = nI 44 from by decide]; exact (ix2 (a := 44) (b := j) (N := 426) (by omega) (by decide)).2
                      rw [mpuF, if_neg (by decide), e9, i32_s0] at hM
                      have hb : alterS T nt (nI j) 2 z = (T 10 j, tup T 10 j z) := by rw [alterS, if_pos h1, if_pos (by decide), if_pos (show inI z (leT 2) (moT 2) = true from hz), hjc]; rfl
                      have hr := (hG.1.1.is hj).2.2.2.1
                      rw [Nat.zero_add] at hr
                      exact ⟨by rw [hb, if_neg (by decide), e9, Int32.add_zero, ← hr], rfl, ⟨_, dd, hM, by rw [hb]; have := hG.1.set10 hj (rg_in (a := 0) (b := 9) hz (by decide) (by decide)); rw [Nat.zero_add] at this; exact this, hd9, fun q hq => pk_un (by omega)⟩, hF⟩))
  refine st_iload_n (q := 1) dX7_alter_0 rfl rfl rfl ?_
  refine st_if_ne (q := 4) (tgt := 16) dX7_alter_1 rfl rfl (fun c_1 => ?_) (fun c_1 => ?_)
  · refine st_iload_n (q := 17) dX7_alter_16 rfl rfl rfl ?_
    refine st_iconst (q := 18) dX7_alter_17 rfl ic_1 ?_
    refine st_icmp_ne (q := 21) (tgt := 33) dX7_alter_18 rfl rfl (fun c_18 => ?_) (fun c_18 => ?_)
    · refine st_iload_n (q := 34) dX7_alter_33 rfl rfl rfl ?_
      refine st_iconst (q := 35) dX7_alter_34 rfl ic_2 ?_
      refine st_icmp_ne (q := 38) (tgt := 54) dX7_alter_35 rfl rfl (fun c_35 => ?_) (fun c_35 => ?_)
      · refine st_iconst (q := 55) dX7_alter_54 rfl ic_0 ?_
        first
          | exact fin _ (fun e => Or.inl ⟨c_1, zI_0.mp e⟩) (fun e => Or.inl ⟨c_1, zI_1.mp e⟩)
          | exact fin _ (fun e => Or.inr (Or.inl ⟨c_18, zI_0.mp e⟩)) (fun e => Or.inr (Or.inl ⟨c_18, zI_1.mp e⟩))
          | exact fin _ (fun e => absurd e (by decide)) (fun _ => Or.inr (Or.inr ⟨c_35, zI_1.mp c_47⟩))
          | exact fin _ (fun _ => Or.inr (Or.inr (Or.inl ⟨c_35, zI_0.mp c_47⟩))) (fun e => absurd rfl e)
          | exact fin _ (fun _ => Or.inr (Or.inr (Or.inr ⟨c_1, c_18, c_35⟩))) (fun e => absurd rfl e)
      · refine st_iload_n (q := 39) dX7_alter_38 rfl rfl rfl ?_
        refine st_i2l (q := 40) dX7_alter_39 rfl ?_
        refine st_lconst (q := 41) dX7_alter_40 rfl lc_0 ?_
        refine st_ldc2 (q := 44) dX7_alter_41 rfl cn_X7_185 ?_
        refine sp_S3 (q := 47) (M' := mX7_in) dX7_alter_44 rfl ok_X7_in mk_X7_in ml_X7_46 ⟨Nat.le_of_ble_eq_true rfl, Nat.le_of_ble_eq_true rfl⟩ rfl (Nat.le_of_ble_eq_true rfl) ⟨rfl, rfl⟩ (c_X7_inI (a := 0) (c := 9) (by decide) (by decide)) ?_
        refine st_if_eq (q := 50) (tgt := 54) dX7_alter_47 rfl rfl (fun c_47 => ?_) (fun c_47 => ?_)
        · refine st_iconst (q := 55) dX7_alter_54 rfl ic_0 ?_
          first
            | exact fin _ (fun e => Or.inl ⟨c_1, zI_0.mp e⟩) (fun e => Or.inl ⟨c_1, zI_1.mp e⟩)
            | exact fin _ (fun e => Or.inr (Or.inl ⟨c_18, zI_0.mp e⟩)) (fun e => Or.inr (Or.inl ⟨c_18, zI_1.mp e⟩))
            | exact fin _ (fun e => absurd e (by decide)) (fun _ => Or.inr (Or.inr ⟨c_35, zI_1.mp c_47⟩))
            | exact fin _ (fun _ => Or.inr (Or.inr (Or.inl ⟨c_35, zI_0.mp c_47⟩))) (fun e => absurd rfl e)
            | exact fin _ (fun _ => Or.inr (Or.inr (Or.inr ⟨c_1, c_18, c_35⟩))) (fun e => absurd rfl e)
        · refine st_iconst (q := 51) dX7_alter_50 rfl ic_1 ?_
          refine st_goto (q := 55) dX7_alter_51 rfl ?_
          first
            | exact fin _ (fun e => Or.inl ⟨c_1, zI_0.mp e⟩) (fun e => Or.inl ⟨c_1, zI_1.mp e⟩)
            | exact fin _ (fun e => Or.inr (Or.inl ⟨c_18, zI_0.mp e⟩)) (fun e => Or.inr (Or.inl ⟨c_18, zI_1.mp e⟩))
            | exact fin _ (fun e => absurd e (by decide)) (fun _ => Or.inr (Or.inr ⟨c_35, zI_1.mp c_47⟩))
            | exact fin _ (fun _ => Or.inr (Or.inr (Or.inl ⟨c_35, zI_0.mp c_47⟩))) (fun e => absurd rfl e)
            | exact fin _ (fun _ => Or.inr (Or.inr (Or.inr ⟨c_1, c_18, c_35⟩))) (fun e => absurd rfl e)
    · refine st_iload_n (q := 22) dX7_alter_21 rfl rfl rfl ?_
      refine st_i2l (q := 23) dX7_alter_22 rfl ?_
      refine st_lconst (q := 24) dX7_alter_23 rfl lc_1 ?_
      refine st_ldc2 (q := 27) dX7_alter_24 rfl cn_X7_185 ?_
      refine sp_S3 (q := 30) (M' := mX7_in) dX7_alter_27 rfl ok_X7_in mk_X7_in ml_X7_46 ⟨Nat.le_of_ble_eq_true rfl, Nat.le_of_ble_eq_true rfl⟩ rfl (Nat.le_of_ble_eq_true rfl) ⟨rfl, rfl⟩ (c_X7_inI (a := 1) (c := 9) (by decide) (by decide)) ?_
      refine st_goto (q := 55) dX7_alter_30 rfl ?_
      first
        | exact fin _ (fun e => Or.inl ⟨c_1, zI_0.mp e⟩) (fun e => Or.inl ⟨c_1, zI_1.mp e⟩)
        | exact fin _ (fun e => Or.inr (Or.inl ⟨c_18, zI_0.mp e⟩)) (fun e => Or.inr (Or.inl ⟨c_18, zI_1.mp e⟩))
        | exact fin _ (fun e => absurd e (by decide)) (fun _ => Or.inr (Or.inr ⟨c_35, zI_1.mp c_47⟩))
        | exact fin _ (fun _ => Or.inr (Or.inr (Or.inl ⟨c_35, zI_0.mp c_47⟩))) (fun e => absurd rfl e)
        | exact fin _ (fun _ => Or.inr (Or.inr (Or.inr ⟨c_1, c_18, c_35⟩))) (fun e => absurd rfl e)
  · refine st_iload_n (q := 5) dX7_alter_4 rfl rfl rfl ?_
    refine st_i2l (q := 6) dX7_alter_5 rfl ?_
    refine st_lconst (q := 7) dX7_alter_6 rfl lc_0 ?_
    refine st_ldc2 (q := 10) dX7_alter_7 rfl cn_X7_179 ?_
    refine sp_S3 (q := 13) (M' := mX7_in) dX7_alter_10 rfl ok_X7_in mk_X7_in ml_X7_46 ⟨Nat.le_of_ble_eq_true rfl, Nat.le_of_ble_eq_true rfl⟩ rfl (Nat.le_of_ble_eq_true rfl) ⟨rfl, rfl⟩ (c_X7_inI (a := 0) (c := 3) (by decide) (by decide)) ?_
    refine st_goto (q := 55) dX7_alter_13 rfl ?_
    first
      | exact fin _ (fun e => Or.inl ⟨c_1, zI_0.mp e⟩) (fun e => Or.inl ⟨c_1, zI_1.mp e⟩)
      | exact fin _ (fun e => Or.inr (Or.inl ⟨c_18, zI_0.mp e⟩)) (fun e => Or.inr (Or.inl ⟨c_18, zI_1.mp e⟩))
      | exact fin _ (fun e => absurd e (by decide)) (fun _ => Or.inr (Or.inr ⟨c_35, zI_1.mp c_47⟩))
      | exact fin _ (fun _ => Or.inr (Or.inr (Or.inl ⟨c_35, zI_0.mp c_47⟩))) (fun e => absurd rfl e)
      | exact fin _ (fun _ => Or.inr (Or.inr (Or.inr ⟨c_1, c_18, c_35⟩))) (fun e => absurd rfl e)
set_option maxRecDepth 100000 in
set_option maxHeartbeats 4000000 in
theorem c_X7_stowsOn {E : ev_E} {n : Nat} {w : ev_W} {S : gT} {f : Nat → Int32} {w0 : ev_W} (hF : Fr 70 82 w0 w) (hM : MR S f 70 n w) {T : gT} {p nh nt dd : Nat} (hp : p + 71 ≤ 426) (hR : RQ T f p nh nt dd) (e2 : S 2 0 = nI nt) {x : Int32} : Ct E mX7_stowsOn [.ref 70, .int (nI p), .int x] n w (fun a u v => ∃ f', a = some (.int (puT T x nt).1) ∧ u = n ∧ MR S f' 70 n v ∧ RQ (puT T x nt).2 f' p nh nt dd ∧ (∀ j, j < p ∨ p + 71 ≤ j → f' j = f j) ∧ Fr 70 82 w0 v) := by
  refine Ct.of 2 (by decide) (Nat.le_of_ble_eq_true rfl) rfl ?_
  refine st_aload_n (q := 1) dX7_stowsOn_0 rfl rfl rfl ?_
  refine st_iload_n (q := 2) dX7_stowsOn_1 rfl rfl rfl ?_
  refine sp_V1 (q := 5) (M' := mX7_isThing) dX7_stowsOn_2 rfl ok_X7_isThing mk_X7_isThing ml_X7_176 ⟨Nat.le_of_ble_eq_true rfl, Nat.le_of_ble_eq_true rfl⟩ rfl (Nat.le_of_ble_eq_true rfl) (g_rv hM rfl) ⟨rfl, rfl⟩ (c_X7_isThing hM) ?_
  refine st_if_ne (q := 8) (tgt := 10) dX7_stowsOn_5 rfl rfl (fun c_5 => ?_) (fun c_5 => ?_)
  · have hN9 := hR.1.hnt
    obtain ⟨j, hj, rfl⟩ := inI_ix (by rw [← e2]; exact zI_1.mp c_5) (by omega)
    have h1 : inI (nI j) 0 (nI nt - 1) = true := by rw [← e2]; exact zI_1.mp c_5
    have hjc : (nI j).toNatClampNeg = j := nI_clamp (by omega)
    have hnh := hR.1.hnh
    obtain ⟨hh, hhn, e8⟩ := (hR.1.is hj).2.2.2.2.2.1
    have e28 : f (p + 28 + j) = nI hh := by rw [← (hR.1.is hj).2.1]; exact e8
    have hhc : (nI hh).toNatClampNeg = hh := nI_clamp (by omega)
    have hwh := hR.1.whp hj
    have hfl := hR.1.afl hhn
    have hl : T 2 hh - fdT T (nI hh) nt - fillI (T 7 j) (T 9 j) = f (p + 4 + hh) - fldM f p (nI hh) nt - fllM f p j := by rw [(hR.1.hs hhn).2.1, fd_eq hR.1 _ nt (Nat.le_refl _), (hR.1.is hj).fill.1]
    refine st_aload_n (q := 11) dX7_stowsOn_10 rfl rfl rfl ?_
    refine g_getA (q := 14) dX7_stowsOn_11 rfl fl_X7_7.g hM rfl ?_
    refine st_iload_n (q := 15) dX7_stowsOn_14 rfl rfl rfl ?_
    refine st_bipush (q := 17) dX7_stowsOn_15 rfl bp_28 ?_
    refine st_iadd (q := 18) dX7_stowsOn_17 rfl ?_
    refine st_iload_n (q := 19) dX7_stowsOn_18 rfl rfl rfl ?_
    refine st_iadd (q := 20) dX7_stowsOn_19 rfl ?_
    refine m_sld (q := 21) dX7_stowsOn_20 rfl hM (by exact ix3 (b := 28) (c := j) (by omega) (by decide)) ?_
    rw [e28]
    refine st_istore_n (q := 22) (L' := [_, _, _, _, _]) dX7_stowsOn_21 rfl rfl (Nat.le_of_ble_eq_true rfl) rfl ?_
    refine st_aload_n (q := 23) dX7_stowsOn_22 rfl rfl rfl ?_
    refine g_getA (q := 26) dX7_stowsOn_23 rfl fl_X7_7.g hM rfl ?_
    refine st_iload_n (q := 27) dX7_stowsOn_26 rfl rfl rfl ?_
    refine st_bipush (q := 29) dX7_stowsOn_27 rfl bp_52 ?_
    refine st_iadd (q := 30) dX7_stowsOn_29 rfl ?_
    refine st_iload_n (q := 31) dX7_stowsOn_30 rfl rfl rfl ?_
    refine st_iadd (q := 32) dX7_stowsOn_31 rfl ?_
    refine m_sld (q := 33) dX7_stowsOn_32 rfl hM (by exact ix3 (b := 52) (c := j) (by omega) (by decide)) ?_
    refine st_if_ne (q := 36) (tgt := 51) dX7_stowsOn_33 rfl rfl (fun c_33 => ?_) (fun c_33 => ?_)
    · refine st_bipush (q := 53) dX7_stowsOn_51 rfl bp_m2 ?_
      refine st_ireturn dX7_stowsOn_53 rfl ?_
      have hb : puT T (nI j) nt = (-2, T) := by
        first
          | rw [puT, if_pos h1, if_neg (by rw [hwh]; exact c_33)]
          | rw [puT, if_pos h1, if_pos (by rw [hwh]; exact c_33), hjc, e8, if_pos (by rw [hfl]; exact decide_eq_true c_48)]
      exact ⟨f, by rw [hb], rfl, hM, by rw [hb]; exact hR, fun _ _ => rfl, hF⟩
    · refine st_aload_n (q := 37) dX7_stowsOn_36 rfl rfl rfl ?_
      refine g_getA (q := 40) dX7_stowsOn_37 rfl fl_X7_7.g hM rfl ?_
      refine st_iload_n (q := 41) dX7_stowsOn_40 rfl rfl rfl ?_
      refine st_bipush (q := 43) dX7_stowsOn_41 rfl bp_16 ?_
      refine st_iadd (q := 44) dX7_stowsOn_43 rfl ?_
      refine st_iload_n (q := 45) dX7_stowsOn_44 rfl rfl rfl ?_
      refine st_iadd (q := 46) dX7_stowsOn_45 rfl ?_
      refine m_sld (q := 47) dX7_stowsOn_46 rfl hM (by exact ix3 (b := 16) (c := hh) (by omega) (by decide)) ?_
      refine st_iconst (q := 48) dX7_stowsOn_47 rfl ic_1 ?_
      refine st_icmp_ne (q := 51) (tgt := 54) dX7_stowsOn_48 rfl rfl (fun c_48 => ?_) (fun c_48 => ?_)
      · refine st_aload_n (q := 55) dX7_stowsOn_54 rfl rfl rfl ?_
        refine g_getA (q := 58) dX7_stowsOn_55 rfl fl_X7_7.g hM rfl ?_
        refine st_iload_n (q := 59) dX7_stowsOn_58 rfl rfl rfl ?_
        refine st_iconst (q := 60) dX7_stowsOn_59 rfl ic_4 ?_
        refine st_iadd (q := 61) dX7_stowsOn_60 rfl ?_
        refine st_iload_n (q := 62) dX7_stowsOn_61 rfl rfl rfl ?_
        refine st_iadd (q := 63) dX7_stowsOn_62 rfl ?_
        refine m_sld (q := 64) dX7_stowsOn_63 rfl hM (by exact ix3 (b := 4) (c := hh) (by omega) (by decide)) ?_
        refine st_aload_n (q := 65) dX7_stowsOn_64 rfl rfl rfl ?_
        refine st_iload_n (q := 66) dX7_stowsOn_65 rfl rfl rfl ?_
        refine st_iload_n (q := 67) dX7_stowsOn_66 rfl rfl rfl ?_
        refine sp_V2 (q := 70) (M' := mX7_filledOn) dX7_stowsOn_67 rfl ok_X7_filledOn mk_X7_filledOn ml_X7_151 ⟨Nat.le_of_ble_eq_true rfl, Nat.le_of_ble_eq_true rfl⟩ rfl (Nat.le_of_ble_eq_true rfl) (g_rv hM rfl) ⟨rfl, rfl⟩ (c_X7_filledOn hM hp e2 hR.1.hnt) ?_
        refine st_isub (q := 71) dX7_stowsOn_70 rfl ?_
        refine st_aload_n (q := 72) dX7_stowsOn_71 rfl rfl rfl ?_
        refine st_iload_n (q := 73) dX7_stowsOn_72 rfl rfl rfl ?_
        refine st_iload_n (q := 74) dX7_stowsOn_73 rfl rfl rfl ?_
        refine sp_V2 (q := 77) (M' := mX7_fillsOn) dX7_stowsOn_74 rfl ok_X7_fillsOn mk_X7_fillsOn ml_X7_145 ⟨Nat.le_of_ble_eq_true rfl, Nat.le_of_ble_eq_true rfl⟩ rfl (Nat.le_of_ble_eq_true rfl) (g_rv hM rfl) ⟨rfl, rfl⟩ (c_X7_fillsOn hM hp (j := j) (by omega)) ?_
        refine st_isub (q := 78) dX7_stowsOn_77 rfl ?_
        refine st_istore (q := 80) (L' := [_, _, _, _, _]) dX7_stowsOn_78 rfl (Nat.le_of_ble_eq_true rfl) rfl ?_
        refine st_iload (q := 82) dX7_stowsOn_80 rfl rfl ?_
        refine st_if_ge (q := 85) (tgt := 88) dX7_stowsOn_82 rfl rfl (fun c_82 => ?_) (fun c_82 => ?_)
        · refine st_aload_n (q := 89) dX7_stowsOn_88 rfl rfl rfl ?_
          refine g_getA (q := 92) dX7_stowsOn_89 rfl fl_X7_7.g hM rfl ?_
          refine st_iload_n (q := 93) dX7_stowsOn_92 rfl rfl rfl ?_
          refine st_bipush (q := 95) dX7_stowsOn_93 rfl bp_52 ?_
          refine st_iadd (q := 96) dX7_stowsOn_95 rfl ?_
          refine st_iload_n (q := 97) dX7_stowsOn_96 rfl rfl rfl ?_
          refine st_iadd (q := 98) dX7_stowsOn_97 rfl ?_
          refine st_iconst (q := 99) dX7_stowsOn_98 rfl ic_1 ?_
          refine m_sst (q := 100) dX7_stowsOn_99 rfl hM (by exact ix3 (b := 52) (c := j) (by omega) (by decide)) (fun w hM hF_ => ?_)
          replace hF := Fr.tr hF hF_
          refine st_iload (q := 102) dX7_stowsOn_100 rfl rfl ?_
          refine st_ireturn dX7_stowsOn_102 rfl ?_
          have hb : puT T (nI j) nt = (f (p + 4 + hh) - fldM f p (nI hh) nt - fllM f p j, tup T 11 0 (T 11 0 ||| 1 <<< (nI j &&& 31))) := by rw [puT, if_pos h1, if_pos (by rw [hwh]; exact c_33), hjc, e8, if_neg (by rw [hfl, decide_eq_false c_48]; decide), hhc, hl, if_pos c_82]
          refine ⟨_, by rw [hb], rfl, hM, ?_, fun q hq => pk_un (by omega), hF⟩
          rw [hb]
          refine hR.set11 hj (Or.inr rfl) (Or.inl c_33) (fun q hq => ?_)
          rw [b_or, bt_shl1 (by omega) hq]
          by_cases z : q = j
          · rw [if_pos z, decide_eq_true z]; simp
          · rw [if_neg z, decide_eq_false z]; simp
        · refine st_bipush (q := 87) dX7_stowsOn_85 rfl bp_m3 ?_
          refine st_ireturn dX7_stowsOn_87 rfl ?_
          have hb : puT T (nI j) nt = (-3, T) := by rw [puT, if_pos h1, if_pos (by rw [hwh]; exact c_33), hjc, e8, if_neg (by rw [hfl, decide_eq_false c_48]; decide), hhc, hl, if_neg c_82]
          exact ⟨f, by rw [hb], rfl, hM, by rw [hb]; exact hR, fun _ _ => rfl, hF⟩
      · refine st_bipush (q := 53) dX7_stowsOn_51 rfl bp_m2 ?_
        refine st_ireturn dX7_stowsOn_53 rfl ?_
        have hb : puT T (nI j) nt = (-2, T) := by
          first
            | rw [puT, if_pos h1, if_neg (by rw [hwh]; exact c_33)]
            | rw [puT, if_pos h1, if_pos (by rw [hwh]; exact c_33), hjc, e8, if_pos (by rw [hfl]; exact decide_eq_true c_48)]
        exact ⟨f, by rw [hb], rfl, hM, by rw [hb]; exact hR, fun _ _ => rfl, hF⟩
  · refine st_iconst (q := 9) dX7_stowsOn_8 rfl ic_m1 ?_
    refine st_ireturn dX7_stowsOn_9 rfl ?_
    have hb : puT T x nt = (-1, T) := by rw [puT, if_neg (by rw [← e2, zI_0.mp c_5]; decide)]
    exact ⟨f, by rw [hb], rfl, hM, by rw [hb]; exact hR, fun _ _ => rfl, hF⟩
set_option maxRecDepth 100000 in
set_option maxHeartbeats 4000000 in
theorem c_X7_stow {E : ev_E} {n : Nat} {w : ev_W} {S : gT} {f : Nat → Int32} {w0 : ev_W} (hF : Fr 70 82 w0 w) (hM : MR S f 70 n w) {T : gT} {nh nt dd : Nat} (hG : GQ S f T nh nt dd) {x : Int32} : Ct E mX7_stow [.ref 70, .int x] n w (ev_mr ((puT T x nt).1) n w0 (CR S f (puT T x nt).2 nh nt n)) := by
  refine Ct.of 0 (by decide) (Nat.le_of_ble_eq_true rfl) rfl ?_
  refine st_aload_n (q := 1) dX7_stow_0 rfl rfl rfl ?_
  refine st_iconst (q := 2) dX7_stow_1 rfl ic_0 ?_
  refine st_iload_n (q := 3) dX7_stow_2 rfl rfl rfl ?_
  refine sm_V2 (q := 6) (M' := mX7_stowsOn) dX7_stow_3 rfl ok_X7_stowsOn mk_X7_stowsOn ml_X7_189 ⟨Nat.le_of_ble_eq_true rfl, Nat.le_of_ble_eq_true rfl⟩ rfl (Nat.le_of_ble_eq_true rfl) (g_rv hM rfl) ⟨rfl, rfl⟩ (c_X7_stowsOn Fr.rf hM (p := 0) (by decide) hG.1 hG.2.2.1) ?_
  intro _ n w h9 _
  obtain ⟨f1, rfl, rfl, hM, hR, ho, hF_⟩ := h9
  replace hF := Fr.tr hF hF_
  refine st_ireturn dX7_stow_6 rfl ?_
  exact ⟨rfl, rfl, ⟨f1, dd, hM, hR, hG.2.2.2, fun q hq => ho q (by omega)⟩, hF⟩
set_option maxRecDepth 100000 in
set_option maxHeartbeats 4000000 in
theorem c_X7_fetch {E : ev_E} {n : Nat} {w : ev_W} {S : gT} {f : Nat → Int32} {w0 : ev_W} (hF : Fr 70 82 w0 w) (hM : MR S f 70 n w) {T : gT} {nh nt dd : Nat} (hG : GQ S f T nh nt dd) {x : Int32} : Ct E mX7_fetch [.ref 70, .int x] n w (ev_mr ((tkT T x nt).1) n w0 (CR S f (tkT T x nt).2 nh nt n)) := by
  refine Ct.of 2 (by decide) (Nat.le_of_ble_eq_true rfl) rfl ?_
  have hd9 := hG.2.2.2
  refine st_aload_n (q := 1) dX7_fetch_0 rfl rfl rfl ?_
  refine st_iload_n (q := 2) dX7_fetch_1 rfl rfl rfl ?_
  refine sp_V1 (q := 5) (M' := mX7_isThing) dX7_fetch_2 rfl ok_X7_isThing mk_X7_isThing ml_X7_176 ⟨Nat.le_of_ble_eq_true rfl, Nat.le_of_ble_eq_true rfl⟩ rfl (Nat.le_of_ble_eq_true rfl) (g_rv hM rfl) ⟨rfl, rfl⟩ (c_X7_isThing hM) ?_
  refine st_if_ne (q := 8) (tgt := 10) dX7_fetch_5 rfl rfl (fun c_5 => ?_) (fun c_5 => ?_)
  · have hN9 := hG.1.1.hnt
    obtain ⟨j, hj, rfl⟩ := inI_ix (by rw [← hG.2.2.1]; exact zI_1.mp c_5) (by omega)
    have h1 : inI (nI j) 0 (nI nt - 1) = true := by rw [← hG.2.2.1]; exact zI_1.mp c_5
    have hjc : (nI j).toNatClampNeg = j := nI_clamp (by omega)
    have hnh := hG.1.1.hnh
    obtain ⟨hh, hhn, e8⟩ := (hG.1.1.is hj).2.2.2.2.2.1
    have e28 : f (28 + j) = nI hh := by have := (hG.1.1.is hj).2.1; rw [Nat.zero_add] at this; rw [← this]; exact e8
    have hhc : (nI hh).toNatClampNeg = hh := nI_clamp (by omega)
    have hin := hG.1.1.in_ hj
    have hfl := hG.1.1.afl hhn
    rw [Nat.zero_add] at hin hfl
    refine st_aload_n (q := 11) dX7_fetch_10 rfl rfl rfl ?_
    refine g_getA (q := 14) dX7_fetch_11 rfl fl_X7_7.g hM rfl ?_
    refine st_bipush (q := 16) dX7_fetch_14 rfl bp_28 ?_
    refine st_iload_n (q := 17) dX7_fetch_16 rfl rfl rfl ?_
    refine st_iadd (q := 18) dX7_fetch_17 rfl ?_
    refine m_sld (q := 19) dX7_fetch_18 rfl hM (by exact ix2 (a := 28) (b := j) (by omega) (by decide)) ?_
    rw [e28]
    refine st_istore_n (q := 20) (L' := [_, _, _, _]) dX7_fetch_19 rfl rfl (Nat.le_of_ble_eq_true rfl) rfl ?_
    refine st_aload_n (q := 21) dX7_fetch_20 rfl rfl rfl ?_
    refine g_getA (q := 24) dX7_fetch_21 rfl fl_X7_7.g hM rfl ?_
    refine st_bipush (q := 26) dX7_fetch_24 rfl bp_52 ?_
    refine st_iload_n (q := 27) dX7_fetch_26 rfl rfl rfl ?_
    refine st_iadd (q := 28) dX7_fetch_27 rfl ?_
    refine m_sld (q := 29) dX7_fetch_28 rfl hM (by exact ix2 (a := 52) (b := j) (by omega) (by decide)) ?_
    refine st_iconst (q := 30) dX7_fetch_29 rfl ic_1 ?_
    refine st_icmp_ne (q := 33) (tgt := 46) dX7_fetch_30 rfl rfl (fun c_30 => ?_) (fun c_30 => ?_)
    · refine st_bipush (q := 48) dX7_fetch_46 rfl bp_m2 ?_
      refine st_ireturn dX7_fetch_48 rfl ?_
      have hb : tkT T (nI j) nt = (-2, T) := by
        first
          | rw [tkT, if_pos h1, if_neg (by rw [hin, decide_eq_false c_30]; decide)]
          | rw [tkT, if_pos h1, if_pos (by rw [hin]; exact decide_eq_true c_30), hjc, e8, if_pos (by rw [hfl]; exact decide_eq_true c_43)]
      exact ⟨by rw [hb], rfl, ⟨f, dd, hM, by rw [hb]; exact hG.1, hd9, fun _ _ => rfl⟩, hF⟩
    · refine st_aload_n (q := 34) dX7_fetch_33 rfl rfl rfl ?_
      refine g_getA (q := 37) dX7_fetch_34 rfl fl_X7_7.g hM rfl ?_
      refine st_bipush (q := 39) dX7_fetch_37 rfl bp_16 ?_
      refine st_iload_n (q := 40) dX7_fetch_39 rfl rfl rfl ?_
      refine st_iadd (q := 41) dX7_fetch_40 rfl ?_
      refine m_sld (q := 42) dX7_fetch_41 rfl hM (by exact ix2 (a := 16) (b := hh) (by omega) (by decide)) ?_
      refine st_iconst (q := 43) dX7_fetch_42 rfl ic_1 ?_
      refine st_icmp_ne (q := 46) (tgt := 49) dX7_fetch_43 rfl rfl (fun c_43 => ?_) (fun c_43 => ?_)
      · refine st_aload_n (q := 50) dX7_fetch_49 rfl rfl rfl ?_
        refine g_getA (q := 53) dX7_fetch_50 rfl fl_X7_7.g hM rfl ?_
        refine st_bipush (q := 55) dX7_fetch_53 rfl bp_52 ?_
        refine st_iload_n (q := 56) dX7_fetch_55 rfl rfl rfl ?_
        refine st_iadd (q := 57) dX7_fetch_56 rfl ?_
        refine st_iconst (q := 58) dX7_fetch_57 rfl ic_0 ?_
        refine m_sst (q := 59) dX7_fetch_58 rfl hM (by exact ix2 (a := 52) (b := j) (by omega) (by decide)) (fun w hM hF_ => ?_)
        replace hF := Fr.tr hF hF_
        have hR := hG.1.set11 (k := j) (v := T 11 0 &&& ((1 <<< (nI j &&& 31)) ^^^ (-1))) (x := 0) hj (Or.inl rfl) (Or.inr (by rw [Nat.zero_add]; exact c_30)) (fun q hq => by
          rw [b_and, bt_not _ hq, bt_shl1 (by omega) hq]
          by_cases z : q = j
          · rw [if_pos z, decide_eq_true z]; simp
          · rw [if_neg z, decide_eq_false z]; simp)
        rw [Nat.zero_add] at hR
        have hl := fd_eq hR.1 (nI hh) nt (Nat.le_refl _)
        have h2 := (hR.1.hs hhn).2.1
        rw [Nat.zero_add] at h2
        refine st_aload_n (q := 60) dX7_fetch_59 rfl rfl rfl ?_
        refine g_getA (q := 63) dX7_fetch_60 rfl fl_X7_7.g hM rfl ?_
        refine st_iconst (q := 64) dX7_fetch_63 rfl ic_4 ?_
        refine st_iload_n (q := 65) dX7_fetch_64 rfl rfl rfl ?_
        refine st_iadd (q := 66) dX7_fetch_65 rfl ?_
        refine m_sld (q := 67) dX7_fetch_66 rfl hM (by exact ix2 (a := 4) (b := hh) (by omega) (by decide)) ?_
        refine st_aload_n (q := 68) dX7_fetch_67 rfl rfl rfl ?_
        refine st_iconst (q := 69) dX7_fetch_68 rfl ic_0 ?_
        refine st_iload_n (q := 70) dX7_fetch_69 rfl rfl rfl ?_
        refine sp_V2 (q := 73) (M' := mX7_filledOn) dX7_fetch_70 rfl ok_X7_filledOn mk_X7_filledOn ml_X7_151 ⟨Nat.le_of_ble_eq_true rfl, Nat.le_of_ble_eq_true rfl⟩ rfl (Nat.le_of_ble_eq_true rfl) (g_rv hM rfl) ⟨rfl, rfl⟩ (c_X7_filledOn hM (p := 0) (by decide) hG.2.2.1 hG.1.1.hnt) ?_
        refine st_isub (q := 74) dX7_fetch_73 rfl ?_
        refine st_istore_n (q := 75) (L' := [_, _, _, _]) dX7_fetch_74 rfl rfl (Nat.le_of_ble_eq_true rfl) rfl ?_
        refine st_iload_n (q := 76) dX7_fetch_75 rfl rfl rfl ?_
        refine st_if_ge (q := 79) (tgt := 83) dX7_fetch_76 rfl rfl (fun c_76 => ?_) (fun c_76 => ?_)
        · refine st_iload_n (q := 84) dX7_fetch_83 rfl rfl rfl ?_
          refine st_ireturn dX7_fetch_84 rfl ?_
          have hb : tkT T (nI j) nt = (if (0 : Int32) < tup T 11 0 (T 11 0 &&& ((1 <<< (nI j &&& 31)) ^^^ (-1))) 2 hh - fdT (tup T 11 0 (T 11 0 &&& ((1 <<< (nI j &&& 31)) ^^^ (-1)))) (nI hh) nt then tup T 11 0 (T 11 0 &&& ((1 <<< (nI j &&& 31)) ^^^ (-1))) 2 hh - fdT (tup T 11 0 (T 11 0 &&& ((1 <<< (nI j &&& 31)) ^^^ (-1)))) (nI hh) nt else 0, tup T 11 0 (T 11 0 &&& ((1 <<< (nI j &&& 31)) ^^^ (-1)))) := by rw [tkT, if_pos h1, if_pos (by rw [hin]; exact decide_eq_true c_30), hjc, e8, if_neg (by rw [hfl, decide_eq_false c_43]; decide), hhc]
          refine ⟨?_, rfl, ⟨_, dd, hM, by rw [hb]; exact hR, hd9, fun q hq => pk_un (by omega)⟩, hF⟩
          rw [hb]
          dsimp only
          rw [hl, h2]
          first
            | (rw [mx0 c_76])
            | (rw [if_neg (fun z => c_76 (Int32.le_of_lt z))])
        · refine st_iconst (q := 80) dX7_fetch_79 rfl ic_0 ?_
          refine st_goto (q := 84) dX7_fetch_80 rfl ?_
          refine st_ireturn dX7_fetch_84 rfl ?_
          have hb : tkT T (nI j) nt = (if (0 : Int32) < tup T 11 0 (T 11 0 &&& ((1 <<< (nI j &&& 31)) ^^^ (-1))) 2 hh - fdT (tup T 11 0 (T 11 0 &&& ((1 <<< (nI j &&& 31)) ^^^ (-1)))) (nI hh) nt then tup T 11 0 (T 11 0 &&& ((1 <<< (nI j &&& 31)) ^^^ (-1))) 2 hh - fdT (tup T 11 0 (T 11 0 &&& ((1 <<< (nI j &&& 31)) ^^^ (-1)))) (nI hh) nt else 0, tup T 11 0 (T 11 0 &&& ((1 <<< (nI j &&& 31)) ^^^ (-1)))) := by rw [tkT, if_pos h1, if_pos (by rw [hin]; exact decide_eq_true c_30), hjc, e8, if_neg (by rw [hfl, decide_eq_false c_43]; decide), hhc]
          refine ⟨?_, rfl, ⟨_, dd, hM, by rw [hb]; exact hR, hd9, fun q hq => pk_un (by omega)⟩, hF⟩
          rw [hb]
          dsimp only
          rw [hl, h2]
          first
            | (rw [mx0 c_76])
            | (rw [if_neg (fun z => c_76 (Int32.le_of_lt z))])
      · refine st_bipush (q := 48) dX7_fetch_46 rfl bp_m2 ?_
        refine st_ireturn dX7_fetch_48 rfl ?_
        have hb : tkT T (nI j) nt = (-2, T) := by
          first
            | rw [tkT, if_pos h1, if_neg (by rw [hin, decide_eq_false c_30]; decide)]
            | rw [tkT, if_pos h1, if_pos (by rw [hin]; exact decide_eq_true c_30), hjc, e8, if_pos (by rw [hfl]; exact decide_eq_true c_43)]
        exact ⟨by rw [hb], rfl, ⟨f, dd, hM, by rw [hb]; exact hG.1, hd9, fun _ _ => rfl⟩, hF⟩
  · refine st_iconst (q := 9) dX7_fetch_8 rfl ic_m1 ?_
    refine st_ireturn dX7_fetch_9 rfl ?_
    have hb : tkT T x nt = (-1, T) := by rw [tkT, if_neg (by rw [← hG.2.2.1, zI_0.mp c_5]; decide)]
    exact ⟨by rw [hb], rfl, ⟨f, dd, hM, by rw [hb]; exact hG.1, hd9, fun _ _ => rfl⟩, hF⟩
set_option maxRecDepth 100000 in
set_option maxHeartbeats 4000000 in
theorem c_X7_days {E : ev_E} {n : Nat} {w : ev_W} {S : gT} {f : Nat → Int32} {w0 : ev_W} (hF : Fr 70 82 w0 w) (hM : MR S f 70 n w) {T : gT} {nh nt dd : Nat} (hG : GQ S f T nh nt dd) {x : Int32} : Ct E mX7_days [.ref 70, .int x] n w (ev_mr ((daysS T nh nt dd x).1) n w0 (CR S f (daysS T nh nt dd x).2 nh nt n)) := by
  refine Ct.of 2 (by decide) (Nat.le_of_ble_eq_true rfl) rfl ?_
  have hd9 := hG.2.2.2
  refine st_iload_n (q := 1) dX7_days_0 rfl rfl rfl ?_
  refine st_i2l (q := 2) dX7_days_1 rfl ?_
  refine st_lconst (q := 3) dX7_days_2 rfl lc_0 ?_
  refine st_ldc2 (q := 6) dX7_days_3 rfl cn_X7_192 ?_
  refine sp_S3 (q := 9) (M' := mX7_in) dX7_days_6 rfl ok_X7_in mk_X7_in ml_X7_46 ⟨Nat.le_of_ble_eq_true rfl, Nat.le_of_ble_eq_true rfl⟩ rfl (Nat.le_of_ble_eq_true rfl) ⟨rfl, rfl⟩ (c_X7_inI (a := 0) (c := 30) (by decide) (by decide)) ?_
  refine st_if_ne (q := 12) (tgt := 14) dX7_days_9 rfl rfl (fun c_9 => ?_) (fun c_9 => ?_)
  · obtain ⟨m, hm, rfl⟩ := inI_k (k := 30) (zI_1.mp c_9) (by decide)
    have h30 : inI (nI m) 0 30 = true := zI_1.mp c_9
    have hmc : (nI m).toNatClampNeg = m := nI_clamp (by omega)
    have e69 := hG.1.ed
    have e16 := hG.1.2.2.2
    rw [Nat.zero_add] at e69
    refine st_aload_n (q := 15) dX7_days_14 rfl rfl rfl ?_
    refine g_getA (q := 18) dX7_days_15 rfl fl_X7_7.g hM rfl ?_
    refine st_bipush (q := 20) dX7_days_18 rfl bp_69 ?_
    refine m_sld (q := 21) dX7_days_20 rfl hM (by exact ev_ix_nI (j := 69) (by decide) (by decide)) ?_
    rw [e69]
    refine st_iload_n (q := 22) dX7_days_21 rfl rfl rfl ?_
    refine st_iadd (q := 23) dX7_days_22 rfl ?_
    refine st_sipush (q := 26) dX7_days_23 rfl sp_999 ?_
    refine st_icmp_le (q := 29) (tgt := 32) dX7_days_26 rfl rfl (fun c_26 => ?_) (fun c_26 => ?_)
    · refine st_aload_n (q := 33) dX7_days_32 rfl rfl rfl ?_
      refine g_getA (q := 36) dX7_days_33 rfl fl_X7_7.g hM rfl ?_
      refine st_bipush (q := 38) dX7_days_36 rfl bp_70 ?_
      refine m_sld (q := 39) dX7_days_38 rfl hM (by exact ev_ix_nI (j := 70) (by decide) (by decide)) ?_
      refine st_istore_n (q := 40) (L' := [_, _, _, _]) dX7_days_39 rfl rfl (Nat.le_of_ble_eq_true rfl) rfl ?_
      have e70 := hG.1.1.so.1
      rw [Nat.zero_add] at e70
      rw [← e70]
      have hdm : dd + m ≤ 999 := by
        have c9 := c_26
        rw [nI_add] at c9
        exact (nI_leiff (a := dd + m) (b := 999) (by omega) (by decide)).mp c9
      have hb : daysS T nh nt dd (nI m) = (dysT T dd nh nt m 17 0 - T 17 0, dysT T dd nh nt m) := by
        rw [daysS, if_pos h30, e16, nI_add, if_pos (show nI (dd + m) < 1000 from (nI_ltiff (a := dd + m) (b := 1000) (by omega) (by decide)).mpr (by omega)), hmc]
      refine st_iconst (q := 41) dX7_days_40 rfl ic_0 ?_
      refine st_istore_n (q := 42) (L' := [_, _, _, _]) dX7_days_41 rfl rfl (Nat.le_of_ble_eq_true rfl) rfl ?_
      have lp : ∀ (k i : Nat), i + k = m → ∀ (w1 : ev_W) (f1 : Nat → Int32), MR S f1 70 n w1 → Fr 70 82 w0 w1 → RQ (dysT T dd nh nt i) f1 0 nh nt (dd + i) → (∀ j, 71 ≤ j → f1 j = f j) → Ev E mX7_days 42 [some (.ref 70), some (.int (nI m)), some (.int (T 17 0)), some (.int (nI i))] [] n w1 (0, 0) (ev_mr ((daysS T nh nt dd (nI m)).1) n w0 (CR S f (daysS T nh nt dd (nI m)).2 nh nt n)) := by
        clear hM hF
        intro k
        induction k with
        | zero =>
          intro i hi w f1 hM hF hR ho
          obtain rfl : m = i := by omega
          refine st_iload_n (q := 43) dX7_days_42 rfl rfl rfl ?_
          refine st_iload_n (q := 44) dX7_days_43 rfl rfl rfl ?_
          refine st_icmp_ge (q := 47) (tgt := 63) dX7_days_44 rfl rfl (fun c_44 => ?_) (fun c_44 => False.elim (c_44 (Int32.le_refl _)))
          refine st_aload_n (q := 64) dX7_days_63 rfl rfl rfl ?_
          refine g_getA (q := 67) dX7_days_64 rfl fl_X7_7.g hM rfl ?_
          refine st_bipush (q := 69) dX7_days_67 rfl bp_70 ?_
          refine m_sld (q := 70) dX7_days_69 rfl hM (by exact ev_ix_nI (j := 70) (by decide) (by decide)) ?_
          refine st_iload_n (q := 71) dX7_days_70 rfl rfl rfl ?_
          refine st_isub (q := 72) dX7_days_71 rfl ?_
          refine st_ireturn dX7_days_72 rfl ?_
          have e70 := hR.1.so.1
          rw [Nat.zero_add] at e70
          exact ⟨by rw [hb, ← e70], rfl, ⟨_, dd + m, hM, by rw [hb]; exact hR, by omega, ho⟩, hF⟩
        | succ k ih =>
          intro i hi w f1 hM hF hR ho
          refine st_iload_n (q := 43) dX7_days_42 rfl rfl rfl ?_
          refine st_iload_n (q := 44) dX7_days_43 rfl rfl rfl ?_
          refine st_icmp_ge (q := 47) (tgt := 63) dX7_days_44 rfl rfl (fun c_44 => False.elim (absurd c_44 (nI_ge (a := i) (b := m) (by omega) (by omega)))) (fun c_44 => ?_)
          refine st_aload_n (q := 48) dX7_days_47 rfl rfl rfl ?_
          refine st_iconst (q := 49) dX7_days_48 rfl ic_0 ?_
          refine st_aload_n (q := 50) dX7_days_49 rfl rfl rfl ?_
          refine st_iconst (q := 51) dX7_days_50 rfl ic_0 ?_
          refine sp_V1 (q := 54) (M' := mX7_riseOn) dX7_days_51 rfl ok_X7_riseOn mk_X7_riseOn ml_X7_194 ⟨Nat.le_of_ble_eq_true rfl, Nat.le_of_ble_eq_true rfl⟩ rfl (Nat.le_of_ble_eq_true rfl) (g_rv hM rfl) ⟨rfl, rfl⟩ (c_X7_riseOn hM (p := 0) (by decide) hR.ed (by omega)) ?_
          refine sm_V2 (q := 57) (M' := mX7_dayOn) dX7_days_54 rfl ok_X7_dayOn mk_X7_dayOn ml_X7_197 ⟨Nat.le_of_ble_eq_true rfl, Nat.le_of_ble_eq_true rfl⟩ rfl (Nat.le_of_ble_eq_true rfl) (g_rv hM rfl) ⟨rfl, rfl⟩ (c_X7_dayOn hM (p := 0) (by decide) hG.2.2.1 hR.1.hnt hG.2.1 hR.1.hnh) ?_
          intro _ n w h9 _
          obtain ⟨rfl, rfl, hM, hF_⟩ := h9
          replace hF := Fr.tr hF hF_
          refine st_iinc (q := 60) (L' := [_, _, _, _]) dX7_days_57 rfl rfl (nI_succ _).symm (Nat.le_of_ble_eq_true rfl) rfl ?_
          refine st_goto (q := 42) dX7_days_60 rfl ?_
          refine ih (i + 1) (by omega) w _ hM hF hR.dy (fun q hq => ?_)
          rw [← ho q hq]
          exact dayM_n hR.1.hnh hR.1.hnt (by unfold inD; omega)
      exact lp m 0 (by omega) w f hM hF hG.1 (fun _ _ => rfl)
    · refine st_bipush (q := 31) dX7_days_29 rfl bp_m3 ?_
      refine st_ireturn dX7_days_31 rfl ?_
      have hb : daysS T nh nt dd (nI m) = (-3, T) := by
        rw [daysS, if_pos h30, e16, nI_add, if_neg (fun z => c_26 ?_)]
        rw [nI_add]
        exact (nI_leiff (a := dd + m) (b := 999) (by omega) (by decide)).mpr (by have := (nI_ltiff (a := dd + m) (b := 1000) (by omega) (by decide)).mp z; omega)
      exact ⟨by rw [hb], rfl, ⟨f, dd, hM, by rw [hb]; exact hG.1, hd9, fun _ _ => rfl⟩, hF⟩
  · refine st_iconst (q := 13) dX7_days_12 rfl ic_m1 ?_
    refine st_ireturn dX7_days_13 rfl ?_
    have hb : daysS T nh nt dd x = (-1, T) := by rw [daysS, if_neg (by rw [zI_0.mp c_9]; decide)]
    exact ⟨by rw [hb], rfl, ⟨f, dd, hM, by rw [hb]; exact hG.1, hd9, fun _ _ => rfl⟩, hF⟩
