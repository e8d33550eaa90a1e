theorem RP.hrow {T : gT} {f : Nat → Int32} {nh nt : Nat} (h : RP T f 0 nh nt) {m j : Nat} (hm : m < 4) (hj : j < nh) : T (hrI (nI m)) j = f (4 * m + j) := by
  have := h.hs hj
  match m, hm with
  | 0, _ => exact this.1
  | 1, _ => have := this.2.1; rw [Nat.zero_add] at this; exact this
  | 2, _ => have := this.2.2.1; rw [Nat.zero_add] at this; exact this
  | 3, _ => have := this.2.2.2.1; rw [Nat.zero_add] at this; exact this
theorem ixm {a m c N : Nat} (h : a * m + c < N) (hN : N < 2 ^ 31) : ev_ix (nI a * nI m + nI c) N (a * m + c) := by rw [pk_mul, nI_add]; exact ev_ix_nI h hN
theorem ixm3 {d a m c N : Nat} (h : d + a * m + c < N) (hN : N < 2 ^ 31) : ev_ix (nI d + nI a * nI m + nI c) N (d + a * m + c) := by rw [pk_mul, nI_add, nI_add]; exact ev_ix_nI h hN
set_option maxRecDepth 100000 in
set_option maxHeartbeats 4000000 in
theorem c_X7_house {E : ev_E} {n : Nat} {w : ev_W} {S : gT} {f : Nat → Int32} {w0 : ev_W} (hF : Fr 70 82 w0 w) (hM : MR S f 70 n w) {T : gT} {nh nt dd : Nat} (hQ : RQ T f 0 nh nt dd) (e1 : S 1 0 = nI nh) (e2 : S 2 0 = nI nt) {x y : Int32} : Ct E mX7_house [.ref 70, .int x, .int y] n w (ev_mr (houseS T nh nt x y) n w0 (MR S f 70 n)) := by
  refine Ct.of 0 (by decide) (Nat.le_of_ble_eq_true rfl) rfl ?_
  refine st_aload_n (q := 1) dX7_house_0 rfl rfl rfl ?_
  refine st_iload_n (q := 2) dX7_house_1 rfl rfl rfl ?_
  refine sp_V1 (q := 5) (M' := mX7_isHouse) dX7_house_2 rfl ok_X7_isHouse mk_X7_isHouse ml_X7_167 ⟨Nat.le_of_ble_eq_true rfl, Nat.le_of_ble_eq_true rfl⟩ rfl (Nat.le_of_ble_eq_true rfl) (g_rv hM rfl) ⟨rfl, rfl⟩ (c_X7_isHouse hM) ?_
  refine st_if_eq (q := 8) (tgt := 20) dX7_house_5 rfl rfl (fun c_5 => ?_) (fun c_5 => ?_)
  · refine st_iconst (q := 21) dX7_house_20 rfl ic_m1 ?_
    refine st_ireturn dX7_house_21 rfl ?_
    first
      | exact ⟨by rw [houseS, if_neg (by rw [← e1, zI_0.mp c_5]; decide)], rfl, hM, hF⟩
      | exact ⟨by rw [houseS, if_pos (by rw [← e1]; exact zI_1.mp c_5), if_neg (by rw [zI_0.mp c_17]; decide)], rfl, hM, hF⟩
  · refine st_iload_n (q := 9) dX7_house_8 rfl rfl rfl ?_
    refine st_i2l (q := 10) dX7_house_9 rfl ?_
    refine st_lconst (q := 11) dX7_house_10 rfl lc_0 ?_
    refine st_ldc2 (q := 14) dX7_house_11 rfl cn_X7_171 ?_
    refine sp_S3 (q := 17) (M' := mX7_in) dX7_house_14 rfl ok_X7_in mk_X7_in ml_X7_46 ⟨Nat.le_of_ble_eq_true rfl, Nat.le_of_ble_eq_true rfl⟩ rfl (Nat.le_of_ble_eq_true rfl) ⟨rfl, rfl⟩ (c_X7_inI (a := 0) (c := 5) (by decide) (by decide)) ?_
    refine st_if_ne (q := 20) (tgt := 22) dX7_house_17 rfl rfl (fun c_17 => ?_) (fun c_17 => ?_)
    · have hN9 := hQ.1.hnh
      obtain ⟨j, hj, rfl⟩ := inI_ix (by rw [← e1]; exact zI_1.mp c_5) (by omega)
      have h1 : inI (nI j) 0 (nI nh - 1) = true := by rw [← e1]; exact zI_1.mp c_5
      have hjc : (nI j).toNatClampNeg = j := nI_clamp (by omega)
      obtain ⟨m, hm, rfl⟩ := inI_k (k := 5) (zI_1.mp c_17) (by decide)
      have h2 : inI (nI m) 0 5 = true := zI_1.mp c_17
      refine st_iload_n (q := 23) dX7_house_22 rfl rfl rfl ?_
      refine st_iconst (q := 24) dX7_house_23 rfl ic_4 ?_
      refine st_icmp_ge (q := 27) (tgt := 40) dX7_house_24 rfl rfl (fun c_24 => ?_) (fun c_24 => ?_)
      · have hm4 : 4 ≤ m := by
          rcases Nat.lt_or_ge m 4 with z | z
          · exact absurd c_24 (nI_ge (a := m) (b := 4) z (by decide))
          · exact z
        refine st_iload_n (q := 41) dX7_house_40 rfl rfl rfl ?_
        refine st_iconst (q := 42) dX7_house_41 rfl ic_4 ?_
        refine st_icmp_ne (q := 45) (tgt := 54) dX7_house_42 rfl rfl (fun c_42 => ?_) (fun c_42 => ?_)
        · refine st_aload_n (q := 55) dX7_house_54 rfl rfl rfl ?_
          refine st_iconst (q := 56) dX7_house_55 rfl ic_0 ?_
          refine st_iload_n (q := 57) dX7_house_56 rfl rfl rfl ?_
          refine sp_V2 (q := 60) (M' := mX7_ofHouse) dX7_house_57 rfl ok_X7_ofHouse mk_X7_ofHouse ml_X7_173 ⟨Nat.le_of_ble_eq_true rfl, Nat.le_of_ble_eq_true rfl⟩ rfl (Nat.le_of_ble_eq_true rfl) (g_rv hM rfl) ⟨rfl, rfl⟩ (c_X7_ofHouse hM (p := 0) (by decide) e2 hQ.1.hnt) ?_
          refine st_ireturn dX7_house_60 rfl ?_
          have n4 : m ≠ 4 → ¬ nI m = 4 := fun z => nI_ne (b := 4) (by omega) (by decide) z
          have n5 : m ≠ 5 → ¬ nI m = 5 := fun z => nI_ne (b := 5) (by omega) (by decide) z
          first
            | exact ⟨by rw [houseS, if_pos h1, if_pos h2, if_neg (n4 (by omega)), if_neg (n5 (by omega)), hjc, hQ.1.hrow hm4 hj], rfl, hM, hF⟩
            | exact ⟨by rw [houseS, if_pos h1, if_pos h2, if_pos c_42, fd_eq hQ.1 _ nt (Nat.le_refl _)], rfl, hM, hF⟩
            | (obtain rfl : m = 5 := by
                 rcases Nat.lt_or_ge m 5 with z | z
                 · exact absurd (by rw [show m = 4 from by omega]; rfl) c_42
                 · omega
               exact ⟨by rw [houseS, if_pos h1, if_pos h2, if_neg (by decide), if_pos (show nI 5 = 5 from rfl), hQ.1.oh _ nt (Nat.le_refl _)], rfl, hM, hF⟩)
        · refine st_aload_n (q := 46) dX7_house_45 rfl rfl rfl ?_
          refine st_iconst (q := 47) dX7_house_46 rfl ic_0 ?_
          refine st_iload_n (q := 48) dX7_house_47 rfl rfl rfl ?_
          refine sp_V2 (q := 51) (M' := mX7_filledOn) dX7_house_48 rfl ok_X7_filledOn mk_X7_filledOn ml_X7_151 ⟨Nat.le_of_ble_eq_true rfl, Nat.le_of_ble_eq_true rfl⟩ rfl (Nat.le_of_ble_eq_true rfl) (g_rv hM rfl) ⟨rfl, rfl⟩ (c_X7_filledOn hM (p := 0) (by decide) e2 hQ.1.hnt) ?_
          refine st_goto (q := 60) dX7_house_51 rfl ?_
          refine st_ireturn dX7_house_60 rfl ?_
          have n4 : m ≠ 4 → ¬ nI m = 4 := fun z => nI_ne (b := 4) (by omega) (by decide) z
          have n5 : m ≠ 5 → ¬ nI m = 5 := fun z => nI_ne (b := 5) (by omega) (by decide) z
          first
            | exact ⟨by rw [houseS, if_pos h1, if_pos h2, if_neg (n4 (by omega)), if_neg (n5 (by omega)), hjc, hQ.1.hrow hm4 hj], rfl, hM, hF⟩
            | exact ⟨by rw [houseS, if_pos h1, if_pos h2, if_pos c_42, fd_eq hQ.1 _ nt (Nat.le_refl _)], rfl, hM, hF⟩
            | (obtain rfl : m = 5 := by
                 rcases Nat.lt_or_ge m 5 with z | z
                 · exact absurd (by rw [show m = 4 from by omega]; rfl) c_42
                 · omega
               exact ⟨by rw [houseS, if_pos h1, if_pos h2, if_neg (by decide), if_pos (show nI 5 = 5 from rfl), hQ.1.oh _ nt (Nat.le_refl _)], rfl, hM, hF⟩)
      · have hm4 : m < 4 := by
          rcases Nat.lt_or_ge m 4 with z | z
          · exact z
          · exact absurd (nI_le (a := 4) (b := m) z (by omega)) c_24
        refine st_aload_n (q := 28) dX7_house_27 rfl rfl rfl ?_
        refine g_getA (q := 31) dX7_house_28 rfl fl_X7_7.g hM rfl ?_
        refine st_iconst (q := 32) dX7_house_31 rfl ic_4 ?_
        refine st_iload_n (q := 33) dX7_house_32 rfl rfl rfl ?_
        refine st_imul (q := 34) dX7_house_33 rfl ?_
        refine st_iload_n (q := 35) dX7_house_34 rfl rfl rfl ?_
        refine st_iadd (q := 36) dX7_house_35 rfl ?_
        refine m_sld (q := 37) dX7_house_36 rfl hM (by exact ixm (a := 4) (m := m) (c := j) (by omega) (by decide)) ?_
        refine st_goto (q := 60) dX7_house_37 rfl ?_
        refine st_ireturn dX7_house_60 rfl ?_
        have n4 : m ≠ 4 → ¬ nI m = 4 := fun z => nI_ne (b := 4) (by omega) (by decide) z
        have n5 : m ≠ 5 → ¬ nI m = 5 := fun z => nI_ne (b := 5) (by omega) (by decide) z
        first
          | exact ⟨by rw [houseS, if_pos h1, if_pos h2, if_neg (n4 (by omega)), if_neg (n5 (by omega)), hjc, hQ.1.hrow hm4 hj], rfl, hM, hF⟩
          | exact ⟨by rw [houseS, if_pos h1, if_pos h2, if_pos c_42, fd_eq hQ.1 _ nt (Nat.le_refl _)], rfl, hM, hF⟩
          | (obtain rfl : m = 5 := by
               rcases Nat.lt_or_ge m 5 with z | z
               · exact absurd (by rw [show m = 4 from by omega]; rfl) c_42
               · omega
             exact ⟨by rw [houseS, if_pos h1, if_pos h2, if_neg (by decide), if_pos (show nI 5 = 5 from rfl), hQ.1.oh _ nt (Nat.le_refl _)], rfl, hM, hF⟩)
    · refine st_iconst (q := 21) dX7_house_20 rfl ic_m1 ?_
      refine st_ireturn dX7_house_21 rfl ?_
      first
        | exact ⟨by rw [houseS, if_neg (by rw [← e1, zI_0.mp c_5]; decide)], rfl, hM, hF⟩
        | exact ⟨by rw [houseS, if_pos (by rw [← e1]; exact zI_1.mp c_5), if_neg (by rw [zI_0.mp c_17]; decide)], rfl, hM, hF⟩
theorem RP.wh {T : gT} {f : Nat → Int32} {nh nt : Nat} (h : RP T f 0 nh nt) {j : Nat} (hj : j < nt) : whI T (nI j) = f (52 + j) := by
  have h9 := (h.is hj).2.2.2.2.2.2.2.2
  have g := h.gone hj
  have i := h.in_ hj
  rw [Nat.zero_add] at h9 g i
  unfold whI
  rw [g, i]
  rcases h9 with z | z | z <;> rw [z] <;> rfl
theorem RP.trow {T : gT} {f : Nat → Int32} {nh nt : Nat} (h : RP T f 0 nh nt) {m j : Nat} (hm : m < 5) (hj : j < nt) : (if nI m = 0 then T 7 j else if nI m = 1 then T 8 j else if nI m = 2 then T 9 j else if nI m = 3 then T 10 j else whI T (nI j)) = f (20 + 8 * m + j) := by
  have := h.is hj
  match m, hm with
  | 0, _ => have := this.1; rw [Nat.zero_add] at this; rw [if_pos (by decide), this, show 20 + 8 * 0 + j = 20 + j from by omega]
  | 1, _ => have := this.2.1; rw [Nat.zero_add] at this; rw [if_neg (by decide), if_pos (by decide), this, show 20 + 8 * 1 + j = 28 + j from by omega]
  | 2, _ => have := this.2.2.1; rw [Nat.zero_add] at this; rw [if_neg (by decide), if_neg (by decide), if_pos (by decide), this, show 20 + 8 * 2 + j = 36 + j from by omega]
  | 3, _ => have := this.2.2.2.1; rw [Nat.zero_add] at this; rw [if_neg (by decide), if_neg (by decide), if_neg (by decide), if_pos (by decide), this, show 20 + 8 * 3 + j = 44 + j from by omega]
  | 4, _ => have := h.wh hj; rw [if_neg (by decide), if_neg (by decide), if_neg (by decide), if_neg (by decide), this, show 20 + 8 * 4 + j = 52 + j from by omega]
theorem th_out {y : Int32} {a b c d e g h : Int32} (hy : inI y 0 6 = false) : (if y = 0 then a else if y = 1 then b else if y = 2 then c else if y = 3 then d else if y = 4 then e else if y = 5 then g else if y = 6 then h else -1) = (-1 : Int32) := by
  rw [if_neg (fun z => by subst z; revert hy; decide), if_neg (fun z => by subst z; revert hy; decide), if_neg (fun z => by subst z; revert hy; decide), if_neg (fun z => by subst z; revert hy; decide), if_neg (fun z => by subst z; revert hy; decide), if_neg (fun z => by subst z; revert hy; decide), if_neg (fun z => by subst z; revert hy; decide)]
set_option maxRecDepth 100000 in
set_option maxHeartbeats 4000000 in
theorem c_X7_thing {E : ev_E} {n : Nat} {w : ev_W} {S : gT} {f : Nat → Int32} {w0 : ev_W} (hF : Fr 70 82 w0 w) (hM : MR S f 70 n w) {T : gT} {nh nt dd : Nat} (hQ : RQ T f 0 nh nt dd) (e1 : S 1 0 = nI nh) (e2 : S 2 0 = nI nt) {x y : Int32} : Ct E mX7_thing [.ref 70, .int x, .int y] n w (ev_mr (thingS T nt x y) n w0 (MR S f 70 n)) := by
  refine Ct.of 0 (by decide) (Nat.le_of_ble_eq_true rfl) rfl ?_
  refine st_aload_n (q := 1) dX7_thing_0 rfl rfl rfl ?_
  refine st_iload_n (q := 2) dX7_thing_1 rfl rfl rfl ?_
  refine sp_V1 (q := 5) (M' := mX7_isThing) dX7_thing_2 rfl ok_X7_isThing mk_X7_isThing ml_X7_176 ⟨Nat.le_of_ble_eq_true rfl, Nat.le_of_ble_eq_true rfl⟩ rfl (Nat.le_of_ble_eq_true rfl) (g_rv hM rfl) ⟨rfl, rfl⟩ (c_X7_isThing hM) ?_
  refine st_if_eq (q := 8) (tgt := 20) dX7_thing_5 rfl rfl (fun c_5 => ?_) (fun c_5 => ?_)
  · refine st_iconst (q := 21) dX7_thing_20 rfl ic_m1 ?_
    refine st_ireturn dX7_thing_21 rfl ?_
    first
      | exact ⟨by rw [thingS, if_neg (by rw [← e2, zI_0.mp c_5]; decide)], rfl, hM, hF⟩
      | exact ⟨by rw [thingS, if_pos (by rw [← e2]; exact zI_1.mp c_5), th_out (zI_0.mp c_17)], rfl, hM, hF⟩
  · refine st_iload_n (q := 9) dX7_thing_8 rfl rfl rfl ?_
    refine st_i2l (q := 10) dX7_thing_9 rfl ?_
    refine st_lconst (q := 11) dX7_thing_10 rfl lc_0 ?_
    refine st_ldc2 (q := 14) dX7_thing_11 rfl cn_X7_104 ?_
    refine sp_S3 (q := 17) (M' := mX7_in) dX7_thing_14 rfl ok_X7_in mk_X7_in ml_X7_46 ⟨Nat.le_of_ble_eq_true rfl, Nat.le_of_ble_eq_true rfl⟩ rfl (Nat.le_of_ble_eq_true rfl) ⟨rfl, rfl⟩ (c_X7_inI (a := 0) (c := 6) (by decide) (by decide)) ?_
    refine st_if_ne (q := 20) (tgt := 22) dX7_thing_17 rfl rfl (fun c_17 => ?_) (fun c_17 => ?_)
    · have hN9 := hQ.1.hnt
      obtain ⟨j, hj, rfl⟩ := inI_ix (by rw [← e2]; exact zI_1.mp c_5) (by omega)
      have h1 : inI (nI j) 0 (nI nt - 1) = true := by rw [← e2]; exact zI_1.mp c_5
      have hjc : (nI j).toNatClampNeg = j := nI_clamp (by omega)
      obtain ⟨m, hm, rfl⟩ := inI_k (k := 6) (zI_1.mp c_17) (by decide)
      have h2 : inI (nI m) 0 6 = true := zI_1.mp c_17
      refine st_iload_n (q := 23) dX7_thing_22 rfl rfl rfl ?_
      refine st_iconst (q := 24) dX7_thing_23 rfl ic_5 ?_
      refine st_icmp_ge (q := 27) (tgt := 44) dX7_thing_24 rfl rfl (fun c_24 => ?_) (fun c_24 => ?_)
      · have hm4 : 5 ≤ m := by
          rcases Nat.lt_or_ge m 5 with z | z
          · exact absurd c_24 (nI_ge (a := m) (b := 5) z (by decide))
          · exact z
        refine st_iload_n (q := 45) dX7_thing_44 rfl rfl rfl ?_
        refine st_iconst (q := 46) dX7_thing_45 rfl ic_5 ?_
        refine st_icmp_ne (q := 49) (tgt := 58) dX7_thing_46 rfl rfl (fun c_46 => ?_) (fun c_46 => ?_)
        · refine st_aload_n (q := 59) dX7_thing_58 rfl rfl rfl ?_
          refine st_iconst (q := 60) dX7_thing_59 rfl ic_0 ?_
          refine st_iload_n (q := 61) dX7_thing_60 rfl rfl rfl ?_
          refine sp_V2 (q := 64) (M' := mX7_costsOn) dX7_thing_61 rfl ok_X7_costsOn mk_X7_costsOn ml_X7_148 ⟨Nat.le_of_ble_eq_true rfl, Nat.le_of_ble_eq_true rfl⟩ rfl (Nat.le_of_ble_eq_true rfl) (g_rv hM rfl) ⟨rfl, rfl⟩ (c_X7_costsOn hM (p := 0) (by decide) (j := j) (by omega)) ?_
          refine st_ireturn dX7_thing_64 rfl ?_
          first
            | (refine ⟨?_, rfl, hM, hF⟩; rw [thingS, if_pos h1, hjc, ← hQ.1.trow hm4 hj]; have n5 : ¬ nI m = 5 := nI_ne (b := 5) (by omega) (by decide) (by omega); have n6 : ¬ nI m = 6 := nI_ne (b := 6) (by omega) (by decide) (by omega); rw [if_neg n5, if_neg n6]; match m, hm4 with
               | 0, _ => rfl
               | 1, _ => rfl
               | 2, _ => rfl
               | 3, _ => rfl
               | 4, _ => rfl)
            | (obtain rfl : m = 5 := nI_ij (b := 5) (by omega) (by decide) c_46
               exact ⟨by rw [thingS, if_pos h1, hjc, ← ((hQ.1.is hj).fill).1]; rfl, rfl, hM, hF⟩)
            | (obtain rfl : m = 6 := by
                 rcases Nat.lt_or_ge m 6 with z | z
                 · exact absurd (by rw [show m = 5 from by omega]; rfl) c_46
                 · omega
               exact ⟨by rw [thingS, if_pos h1, hjc, ← ((hQ.1.is hj).cost).1]; rfl, rfl, hM, hF⟩)
        · refine st_aload_n (q := 50) dX7_thing_49 rfl rfl rfl ?_
          refine st_iconst (q := 51) dX7_thing_50 rfl ic_0 ?_
          refine st_iload_n (q := 52) dX7_thing_51 rfl rfl rfl ?_
          refine sp_V2 (q := 55) (M' := mX7_fillsOn) dX7_thing_52 rfl ok_X7_fillsOn mk_X7_fillsOn ml_X7_145 ⟨Nat.le_of_ble_eq_true rfl, Nat.le_of_ble_eq_true rfl⟩ rfl (Nat.le_of_ble_eq_true rfl) (g_rv hM rfl) ⟨rfl, rfl⟩ (c_X7_fillsOn hM (p := 0) (by decide) (j := j) (by omega)) ?_
          refine st_goto (q := 64) dX7_thing_55 rfl ?_
          refine st_ireturn dX7_thing_64 rfl ?_
          first
            | (refine ⟨?_, rfl, hM, hF⟩; rw [thingS, if_pos h1, hjc, ← hQ.1.trow hm4 hj]; have n5 : ¬ nI m = 5 := nI_ne (b := 5) (by omega) (by decide) (by omega); have n6 : ¬ nI m = 6 := nI_ne (b := 6) (by omega) (by decide) (by omega); rw [if_neg n5, if_neg n6]; match m, hm4 with
               | 0, _ => rfl
               | 1, _ => rfl
               | 2, _ => rfl
               | 3, _ => rfl
               | 4, _ => rfl)
            | (obtain rfl : m = 5 := nI_ij (b := 5) (by omega) (by decide) c_46
               exact ⟨by rw [thingS, if_pos h1, hjc, ← ((hQ.1.is hj).fill).1]; rfl, rfl, hM, hF⟩)
            | (obtain rfl : m = 6 := by
                 rcases Nat.lt_or_ge m 6 with z | z
                 · exact absurd (by rw [show m = 5 from by omega]; rfl) c_46
                 · omega
               exact ⟨by rw [thingS, if_pos h1, hjc, ← ((hQ.1.is hj).cost).1]; rfl, rfl, hM, hF⟩)
      · have hm4 : m < 5 := by
          rcases Nat.lt_or_ge m 5 with z | z
          · exact z
          · exact absurd (nI_le (a := 5) (b := m) z (by omega)) c_24
        refine st_aload_n (q := 28) dX7_thing_27 rfl rfl rfl ?_
        refine g_getA (q := 31) dX7_thing_28 rfl fl_X7_7.g hM rfl ?_
        refine st_bipush (q := 33) dX7_thing_31 rfl bp_20 ?_
        refine st_bipush (q := 35) dX7_thing_33 rfl bp_8 ?_
        refine st_iload_n (q := 36) dX7_thing_35 rfl rfl rfl ?_
        refine st_imul (q := 37) dX7_thing_36 rfl ?_
        refine st_iadd (q := 38) dX7_thing_37 rfl ?_
        refine st_iload_n (q := 39) dX7_thing_38 rfl rfl rfl ?_
        refine st_iadd (q := 40) dX7_thing_39 rfl ?_
        refine m_sld (q := 41) dX7_thing_40 rfl hM (by exact ixm3 (d := 20) (a := 8) (m := m) (c := j) (by omega) (by decide)) ?_
        refine st_goto (q := 64) dX7_thing_41 rfl ?_
        refine st_ireturn dX7_thing_64 rfl ?_
        first
          | (refine ⟨?_, rfl, hM, hF⟩; rw [thingS, if_pos h1, hjc, ← hQ.1.trow hm4 hj]; have n5 : ¬ nI m = 5 := nI_ne (b := 5) (by omega) (by decide) (by omega); have n6 : ¬ nI m = 6 := nI_ne (b := 6) (by omega) (by decide) (by omega); rw [if_neg n5, if_neg n6]; match m, hm4 with
             | 0, _ => rfl
             | 1, _ => rfl
             | 2, _ => rfl
             | 3, _ => rfl
             | 4, _ => rfl)
          | (obtain rfl : m = 5 := nI_ij (b := 5) (by omega) (by decide) c_46
             exact ⟨by rw [thingS, if_pos h1, hjc, ← ((hQ.1.is hj).fill).1]; rfl, rfl, hM, hF⟩)
          | (obtain rfl : m = 6 := by
               rcases Nat.lt_or_ge m 6 with z | z
               · exact absurd (by rw [show m = 5 from by omega]; rfl) c_46
               · omega
             exact ⟨by rw [thingS, if_pos h1, hjc, ← ((hQ.1.is hj).cost).1]; rfl, rfl, hM, hF⟩)
    · refine st_iconst (q := 21) dX7_thing_20 rfl ic_m1 ?_
      refine st_ireturn dX7_thing_21 rfl ?_
      first
        | exact ⟨by rw [thingS, if_neg (by rw [← e2, zI_0.mp c_5]; decide)], rfl, hM, hF⟩
        | exact ⟨by rw [thingS, if_pos (by rw [← e2]; exact zI_1.mp c_5), th_out (zI_0.mp c_17)], rfl, hM, hF⟩
set_option maxRecDepth 100000 in
set_option maxHeartbeats 4000000 in
theorem c_X7_rise {E : ev_E} {n : Nat} {w : ev_W} {S : gT} {f : Nat → Int32} {w0 : ev_W} (hF : Fr 70 82 w0 w) (hM : MR S f 70 n w) {T : gT} {nh nt dd : Nat} (hQ : RQ T f 0 nh nt dd) (e1 : S 1 0 = nI nh) (e2 : S 2 0 = nI nt) {x : Int32} : Ct E mX7_rise [.ref 70, .int x] n w (ev_mr (riseS T x) n w0 (MR S f 70 n)) := by
  refine Ct.of 0 (by decide) (Nat.le_of_ble_eq_true rfl) rfl ?_
  refine st_iload_n (q := 1) dX7_rise_0 rfl rfl rfl ?_
  refine st_i2l (q := 2) dX7_rise_1 rfl ?_
  refine st_lconst (q := 3) dX7_rise_2 rfl lc_0 ?_
  refine st_ldc2 (q := 6) dX7_rise_3 rfl cn_X7_104 ?_
  refine sp_S3 (q := 9) (M' := mX7_in) dX7_rise_6 rfl ok_X7_in mk_X7_in ml_X7_46 ⟨Nat.le_of_ble_eq_true rfl, Nat.le_of_ble_eq_true rfl⟩ rfl (Nat.le_of_ble_eq_true rfl) ⟨rfl, rfl⟩ (c_X7_inI (a := 0) (c := 6) (by decide) (by decide)) ?_
  refine st_if_eq (q := 12) (tgt := 26) dX7_rise_9 rfl rfl (fun c_9 => ?_) (fun c_9 => ?_)
  · refine st_iconst (q := 27) dX7_rise_26 rfl ic_m1 ?_
    refine st_ireturn dX7_rise_27 rfl ?_
    first
      | exact ⟨by rw [riseS, if_neg (by rw [zI_0.mp c_9]; decide)], rfl, hM, hF⟩
      | exact ⟨by rw [riseS, if_pos h1, hjc, hr], rfl, hM, hF⟩
  · obtain ⟨j, hj, rfl⟩ := inI_k (k := 6) (zI_1.mp c_9) (by decide)
    have h1 : inI (nI j) 0 6 = true := zI_1.mp c_9
    have hjc : (nI j).toNatClampNeg = j := nI_clamp (by omega)
    have hr := (hQ.1.ri (d := j) (by omega)).1
    rw [Nat.zero_add] at hr
    refine st_aload_n (q := 13) dX7_rise_12 rfl rfl rfl ?_
    refine g_getA (q := 16) dX7_rise_13 rfl fl_X7_7.g hM rfl ?_
    refine st_bipush (q := 18) dX7_rise_16 rfl bp_60 ?_
    refine st_iload_n (q := 19) dX7_rise_18 rfl rfl rfl ?_
    refine st_iadd (q := 20) dX7_rise_19 rfl ?_
    refine m_sld (q := 21) dX7_rise_20 rfl hM (by exact ix2 (a := 60) (b := j) (by omega) (by decide)) ?_
    refine st_iconst (q := 22) dX7_rise_21 rfl ic_4 ?_
    refine st_iadd (q := 23) dX7_rise_22 rfl ?_
    refine st_goto (q := 27) dX7_rise_23 rfl ?_
    refine st_ireturn dX7_rise_27 rfl ?_
    first
      | exact ⟨by rw [riseS, if_neg (by rw [zI_0.mp c_9]; decide)], rfl, hM, hF⟩
      | exact ⟨by rw [riseS, if_pos h1, hjc, hr], rfl, hM, hF⟩
