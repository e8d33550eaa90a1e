def mseS (S : gT) (sz : Nat) (x y : Int32) : gT := if inI x 0 20 = true then (if inI y 0 999 = true then (if sz < 6 then tup (tup (tup S 21 (2 * sz) x) 21 (2 * sz + 1) y) 22 0 (nI (sz + 1)) else S) else S) else S
def mfoS (S : gT) (sz : Nat) (x : Int32) : gT := if inI x 0 (nI sz) = true then tup S 22 0 x else S
theorem ixm1 {a m N : Nat} (h : a * m < N) (hN : N < 2 ^ 31) : ev_ix (nI a * nI m) N (a * m) := by rw [pk_mul]; exact ev_ix_nI h hN
set_option maxRecDepth 100000 in
set_option maxHeartbeats 4000000 in
theorem c_X7_see {E : ev_E} {n : Nat} {w : ev_W} {S : gT} {f : Nat → Int32} {w0 : ev_W} (hF : Fr 70 82 w0 w) (hM : MR S f 70 n w) {sz : Nat} (es : S 22 0 = nI sz) (hs : sz ≤ 6) {x y : Int32} : Ct E mX7_see [.ref 70, .int x, .int y] n w (ev_mr (seeS sz x y) n w0 (MR (mseS S sz x y) f 70 n)) := by
  refine Ct.of 0 (by decide) (Nat.le_of_ble_eq_true rfl) rfl ?_
  refine st_iload_n (q := 1) dX7_see_0 rfl rfl rfl ?_
  refine st_i2l (q := 2) dX7_see_1 rfl ?_
  refine st_lconst (q := 3) dX7_see_2 rfl lc_0 ?_
  refine st_ldc2 (q := 6) dX7_see_3 rfl cn_X7_225 ?_
  refine sp_S3 (q := 9) (M' := mX7_in) dX7_see_6 rfl ok_X7_in mk_X7_in ml_X7_46 ⟨Nat.le_of_ble_eq_true rfl, Nat.le_of_ble_eq_true rfl⟩ rfl (Nat.le_of_ble_eq_true rfl) ⟨rfl, rfl⟩ (c_X7_inI (a := 0) (c := 20) (by decide) (by decide)) ?_
  refine st_if_eq (q := 12) (tgt := 24) dX7_see_9 rfl rfl (fun c_9 => ?_) (fun c_9 => ?_)
  · refine st_iconst (q := 25) dX7_see_24 rfl ic_m1 ?_
    refine st_ireturn dX7_see_25 rfl ?_
    first
      | exact ⟨by rw [seeS, if_neg (by rw [zI_0.mp c_9]; decide)], rfl, by rw [mseS, if_neg (by rw [zI_0.mp c_9]; decide)]; exact hM, hF⟩
      | exact ⟨by rw [seeS, if_pos (zI_1.mp c_9), if_neg (by rw [zI_0.mp c_21]; decide)], rfl, by rw [mseS, if_pos (zI_1.mp c_9), if_neg (by rw [zI_0.mp c_21]; decide)]; exact hM, hF⟩
  · refine st_iload_n (q := 13) dX7_see_12 rfl rfl rfl ?_
    refine st_i2l (q := 14) dX7_see_13 rfl ?_
    refine st_lconst (q := 15) dX7_see_14 rfl lc_0 ?_
    refine st_ldc2 (q := 18) dX7_see_15 rfl cn_X7_227 ?_
    refine sp_S3 (q := 21) (M' := mX7_in) dX7_see_18 rfl ok_X7_in mk_X7_in ml_X7_46 ⟨Nat.le_of_ble_eq_true rfl, Nat.le_of_ble_eq_true rfl⟩ rfl (Nat.le_of_ble_eq_true rfl) ⟨rfl, rfl⟩ (c_X7_inI (a := 0) (c := 999) (by decide) (by decide)) ?_
    refine st_if_ne (q := 24) (tgt := 26) dX7_see_21 rfl rfl (fun c_21 => ?_) (fun c_21 => ?_)
    · have h1 : inI x 0 20 = true := zI_1.mp c_9
      have h2 : inI y 0 999 = true := zI_1.mp c_21
      refine st_aload_n (q := 27) dX7_see_26 rfl rfl rfl ?_
      refine m_get (q := 30) dX7_see_27 rfl fl_X7_142.g hM (by decide) rfl ?_
      refine st_bipush (q := 32) dX7_see_30 rfl bp_6 ?_
      refine st_icmp_ne (q := 35) (tgt := 38) dX7_see_32 rfl rfl (fun c_32 => ?_) (fun c_32 => ?_)
      · have h9 : sz < 6 := by
          rcases Nat.lt_or_ge sz 6 with z | z
          · exact z
          · exact absurd (by rw [es, show sz = 6 from by omega]; rfl) c_32
        refine st_aload_n (q := 39) dX7_see_38 rfl rfl rfl ?_
        refine g_getA (q := 42) dX7_see_39 rfl fl_X7_25.g hM rfl ?_
        refine st_iconst (q := 43) dX7_see_42 rfl ic_2 ?_
        refine st_aload_n (q := 44) dX7_see_43 rfl rfl rfl ?_
        refine m_get (q := 47) dX7_see_44 rfl fl_X7_142.g hM (by decide) rfl ?_
        rw [es]
        refine st_imul (q := 48) dX7_see_47 rfl ?_
        refine st_iload_n (q := 49) dX7_see_48 rfl rfl rfl ?_
        refine m_ast (q := 50) dX7_see_49 rfl hM (i := 21) (by decide) rfl (by exact ixm1 (a := 2) (m := sz) (by omega) (by decide)) (fun w hM hF_ => ?_)
        replace hF := Fr.tr hF hF_
        refine st_aload_n (q := 51) dX7_see_50 rfl rfl rfl ?_
        refine g_getA (q := 54) dX7_see_51 rfl fl_X7_25.g hM rfl ?_
        refine st_iconst (q := 55) dX7_see_54 rfl ic_2 ?_
        refine st_aload_n (q := 56) dX7_see_55 rfl rfl rfl ?_
        refine m_get (q := 59) dX7_see_56 rfl fl_X7_142.g hM (by decide) rfl ?_
        rw [tup_n (by decide), es]
        refine st_imul (q := 60) dX7_see_59 rfl ?_
        refine st_iconst (q := 61) dX7_see_60 rfl ic_1 ?_
        refine st_iadd (q := 62) dX7_see_61 rfl ?_
        refine st_iload_n (q := 63) dX7_see_62 rfl rfl rfl ?_
        refine m_ast (q := 64) dX7_see_63 rfl hM (i := 21) (by decide) rfl (by exact ixm (a := 2) (m := sz) (c := 1) (by omega) (by decide)) (fun w hM hF_ => ?_)
        replace hF := Fr.tr hF hF_
        refine st_aload_n (q := 65) dX7_see_64 rfl rfl rfl ?_
        refine st_dup (q := 66) dX7_see_65 rfl rfl ?_
        refine m_get (q := 69) dX7_see_66 rfl fl_X7_142.g hM (by decide) rfl ?_
        rw [tup_n (by decide), tup_n (by decide), es]
        refine st_iconst (q := 70) dX7_see_69 rfl ic_1 ?_
        refine st_iadd (q := 71) dX7_see_70 rfl ?_
        rw [← nI_succ]
        refine m_put (q := 74) dX7_see_71 rfl fl_X7_142 hM (by decide) rfl rfl rfl (fun w hM hF_ => ?_)
        replace hF := Fr.tr hF hF_
        refine st_aload_n (q := 75) dX7_see_74 rfl rfl rfl ?_
        refine m_get (q := 78) dX7_see_75 rfl fl_X7_142.g hM (by decide) rfl ?_
        refine st_ireturn dX7_see_78 rfl ?_
        exact ⟨by rw [seeS, if_pos h1, if_pos h2, if_pos h9, tup_s, pk_us], rfl, by rw [mseS, if_pos h1, if_pos h2, if_pos h9]; exact hM, hF⟩
      · have h9 : ¬ sz < 6 := fun z => nI_ne (a := sz) (b := 6) (by omega) (by decide) (by omega) (by rw [← es]; exact c_32)
        refine st_bipush (q := 37) dX7_see_35 rfl bp_m3 ?_
        refine st_ireturn dX7_see_37 rfl ?_
        exact ⟨by rw [seeS, if_pos h1, if_pos h2, if_neg h9], rfl, by rw [mseS, if_pos h1, if_pos h2, if_neg h9]; exact hM, hF⟩
    · refine st_iconst (q := 25) dX7_see_24 rfl ic_m1 ?_
      refine st_ireturn dX7_see_25 rfl ?_
      first
        | exact ⟨by rw [seeS, if_neg (by rw [zI_0.mp c_9]; decide)], rfl, by rw [mseS, if_neg (by rw [zI_0.mp c_9]; decide)]; exact hM, hF⟩
        | exact ⟨by rw [seeS, if_pos (zI_1.mp c_9), if_neg (by rw [zI_0.mp c_21]; decide)], rfl, by rw [mseS, if_pos (zI_1.mp c_9), if_neg (by rw [zI_0.mp c_21]; decide)]; exact hM, hF⟩
set_option maxRecDepth 100000 in
set_option maxHeartbeats 4000000 in
theorem c_X7_forget {E : ev_E} {n : Nat} {w : ev_W} {S : gT} {f : Nat → Int32} {w0 : ev_W} (hF : Fr 70 82 w0 w) (hM : MR S f 70 n w) {sz : Nat} (es : S 22 0 = nI sz) (hs : sz ≤ 6) {x : Int32} : Ct E mX7_forget [.ref 70, .int x] n w (ev_mr (fogS sz x) n w0 (MR (mfoS S sz x) f 70 n)) := by
  refine Ct.of 1 (by decide) (Nat.le_of_ble_eq_true rfl) rfl ?_
  refine st_iload_n (q := 1) dX7_forget_0 rfl rfl rfl ?_
  refine st_i2l (q := 2) dX7_forget_1 rfl ?_
  refine st_lconst (q := 3) dX7_forget_2 rfl lc_0 ?_
  refine st_aload_n (q := 4) dX7_forget_3 rfl rfl rfl ?_
  refine m_get (q := 7) dX7_forget_4 rfl fl_X7_142.g hM (by decide) rfl ?_
  refine st_i2l (q := 8) dX7_forget_7 rfl ?_
  rw [es]
  refine sp_S3 (q := 11) (M' := mX7_in) dX7_forget_8 rfl ok_X7_in mk_X7_in ml_X7_46 ⟨Nat.le_of_ble_eq_true rfl, Nat.le_of_ble_eq_true rfl⟩ rfl (Nat.le_of_ble_eq_true rfl) ⟨rfl, rfl⟩ (c_X7_inI (a := 0) (c := nI sz) (by decide) rfl) ?_
  refine st_if_ne (q := 14) (tgt := 16) dX7_forget_11 rfl rfl (fun c_11 => ?_) (fun c_11 => ?_)
  · refine st_aload_n (q := 17) dX7_forget_16 rfl rfl rfl ?_
    refine m_get (q := 20) dX7_forget_17 rfl fl_X7_142.g hM (by decide) rfl ?_
    refine st_istore_n (q := 21) (L' := [_, _, _]) dX7_forget_20 rfl rfl (Nat.le_of_ble_eq_true rfl) rfl ?_
    refine st_aload_n (q := 22) dX7_forget_21 rfl rfl rfl ?_
    refine st_iload_n (q := 23) dX7_forget_22 rfl rfl rfl ?_
    refine m_put (q := 26) dX7_forget_23 rfl fl_X7_142 hM (by decide) rfl rfl rfl (fun w hM hF_ => ?_)
    replace hF := Fr.tr hF hF_
    refine st_iload_n (q := 27) dX7_forget_26 rfl rfl rfl ?_
    refine st_ireturn dX7_forget_27 rfl ?_
    exact ⟨by rw [fogS, if_pos (zI_1.mp c_11), es], rfl, by rw [mfoS, if_pos (zI_1.mp c_11)]; exact hM, hF⟩
  · refine st_iconst (q := 15) dX7_forget_14 rfl ic_m1 ?_
    refine st_ireturn dX7_forget_15 rfl ?_
    exact ⟨by rw [fogS, if_neg (by rw [zI_0.mp c_11]; decide)], rfl, by rw [mfoS, if_neg (by rw [zI_0.mp c_11]; decide)]; exact hM, hF⟩
def SG (Sg S : gT) (sz : Nat) : Prop := SK Sg sz ∧ S 22 0 = nI sz ∧ ∀ k, k < sz → S 21 (2 * k) = Sg 0 k ∧ S 21 (2 * k + 1) = Sg 1 k
theorem SG.qa {Sg S S' : gT} {f f' : Nat → Int32} {sz : Nat} (h : SG Sg S sz) (a : QA S S' f f') : SG Sg S' sz := by
  unfold SG
  rw [a.2 21 (by decide) (by decide), a.2 22 (by decide) (by decide)]
  exact h
theorem QA.sb {S : gT} {f : Nat → Int32} {j : Nat} {v : Int32} : QA S (tup S 23 j v) f f := ⟨fun _ _ => rfl, fun g _ h => tup_n h⟩
def seenF (Sg U : gT) (dd nh nt sz i : Nat) : Bool := (List.range sz).all (fun e => !decide ((Sg 0 e).toNatClampNeg < i) || decide (dysT U dd nh nt (Sg 0 e).toNatClampNeg 17 0 = Sg 1 e))
def seinF (Sg U : gT) (dd nh nt i e : Nat) : Bool := (List.range e).all (fun k => !decide ((Sg 0 k).toNatClampNeg = i) || decide (dysT U dd nh nt i 17 0 = Sg 1 k))
theorem all_succ (p : Nat → Bool) (e : Nat) : (List.range (e + 1)).all p = ((List.range e).all p && p e) := by
  rw [List.range_succ, List.all_append]; simp
theorem seenF_s {Sg U : gT} {dd nh nt i : Nat} : ∀ sz, seenF Sg U dd nh nt sz (i + 1) = (seenF Sg U dd nh nt sz i && seinF Sg U dd nh nt i sz)
  | 0 => rfl
  | e + 1 => by
    have ih := seenF_s (Sg := Sg) (U := U) (dd := dd) (nh := nh) (nt := nt) (i := i) e
    unfold seenF seinF at *
    rw [all_succ, all_succ, all_succ, ih]
    generalize (List.range e).all (fun e => !decide ((Sg 0 e).toNatClampNeg < i) || decide (dysT U dd nh nt (Sg 0 e).toNatClampNeg 17 0 = Sg 1 e)) = A
    generalize (List.range e).all (fun k => !decide ((Sg 0 k).toNatClampNeg = i) || decide (dysT U dd nh nt i 17 0 = Sg 1 k)) = B
    by_cases h1 : (Sg 0 e).toNatClampNeg < i
    · rw [decide_eq_true h1, decide_eq_true (show (Sg 0 e).toNatClampNeg < i + 1 from by omega), decide_eq_false (show ¬ (Sg 0 e).toNatClampNeg = i from by omega)]
      cases A <;> cases B <;> simp
    · by_cases h2 : (Sg 0 e).toNatClampNeg = i
      · rw [h2, decide_eq_false (show ¬ i < i from by omega), decide_eq_true (show i < i + 1 from by omega), decide_eq_true (show i = i from rfl)]
        cases A <;> cases B <;> simp
      · rw [decide_eq_false h1, decide_eq_false h2, decide_eq_false (show ¬ (Sg 0 e).toNatClampNeg < i + 1 from by omega)]
        cases A <;> cases B <;> simp
theorem seenF_0 {Sg U : gT} {dd nh nt sz : Nat} : seenF Sg U dd nh nt sz 0 = true := List.all_eq_true.mpr (fun e _ => by simp)
theorem seenF_21 {Sg U : gT} {dd nh nt sz : Nat} (h : SK Sg sz) : seenF Sg U dd nh nt sz 21 = seF Sg U dd nh nt sz := by
  refine all_cg _ (fun k hk => ?_)
  obtain ⟨d, hd, e⟩ := h.2.2 k (List.mem_range.mp hk)
  rw [e, nI_clamp (by omega), decide_eq_true (show d < 21 from by omega)]
  rfl
set_option maxRecDepth 100000 in
set_option maxHeartbeats 4000000 in
theorem c_X7_isAsSeen {E : ev_E} {n : Nat} {w : ev_W} {S0 S : gT} {f0 f : Nat → Int32} {w0 : ev_W} (hF : Fr 70 82 w0 w) (hM : MR S f 70 n w) (hA : QA S0 S f0 f) {U : gT} {nh nt dd : Nat} (hG : GQ S f U nh nt dd) {Sg : gT} {sz : Nat} (hg9 : SG Sg S sz) (hSS : ∀ j, S 23 j = S0 23 j) {r : Nat} (hr : r < 31) : Ct E mX7_isAsSeen [.ref 70, .int (nI r)] n w (fun a u v => ∃ S' f', a = some (.int (zI (seF Sg U dd nh nt sz))) ∧ u = n ∧ MR S' f' 70 n v ∧ QA S0 S' f0 f' ∧ (∀ d, d < 21 → S' 23 (21 * r + d) = dysT U dd nh nt d 17 0) ∧ (∀ j, (j < 21 * r ∨ 21 * r + 21 ≤ j) → S' 23 j = S0 23 j) ∧ Fr 70 82 w0 v) := by
  refine Ct.of 3 (by decide) (Nat.le_of_ble_eq_true rfl) rfl ?_
  have hd9 := hG.2.2.2
  have hz6 := hg9.1.2.1
  have lp : ∀ (k i : Nat), i + k = 21 → ∀ (w1 : ev_W) (S1 : gT) (f1 : Nat → Int32) (l4 : Option Value), MR S1 f1 70 n w1 → QA S0 S1 f0 f1 → GQ S1 f1 U nh nt dd → Fr 70 82 w0 w1 → SG Sg S1 sz → RQ (dysT U dd nh nt i) f1 284 nh nt (dd + i) → (∀ d, d < i → S1 23 (21 * r + d) = dysT U dd nh nt d 17 0) → (∀ j, (j < 21 * r ∨ 21 * r + 21 ≤ j) → S1 23 j = S0 23 j) → Ev E mX7_isAsSeen 12 [some (.ref 70), some (.int (nI r)), some (.int (zI (seenF Sg U dd nh nt sz i))), some (.int (nI i)), l4] [] n w1 (0, 0) (fun a u v => ∃ S' f', a = some (.int (zI (seF Sg U dd nh nt sz))) ∧ u = n ∧ MR S' f' 70 n v ∧ QA S0 S' f0 f' ∧ (∀ d, d < 21 → S' 23 (21 * r + d) = dysT U dd nh nt d 17 0) ∧ (∀ j, (j < 21 * r ∨ 21 * r + 21 ≤ j) → S' 23 j = S0 23 j) ∧ Fr 70 82 w0 v) := by
    clear hM hA hG hF hg9
    intro k
    induction k with
    | zero =>
      intro i hi w S f l4 hM hA hG hF hg9 hR hsb hso
      obtain rfl : 21 = i := by omega
      refine st_iload_n (q := 13) dX7_isAsSeen_12 rfl rfl rfl ?_
      refine st_bipush (q := 15) dX7_isAsSeen_13 rfl bp_20 ?_
      refine st_icmp_gt (q := 18) (tgt := 120) dX7_isAsSeen_15 rfl rfl (fun c_15 => ?_) (fun c_15 => False.elim (c_15 (by decide)))
      refine st_iload_n (q := 121) dX7_isAsSeen_120 rfl rfl rfl ?_
      refine st_nreturn dX7_isAsSeen_121 rfl (by exact zI_nar _) ?_
      rw [seenF_21 hg9.1]
      exact ⟨S, f, rfl, rfl, hM, hA, hsb, hso, hF⟩
    | succ k ih =>
      intro i hi w S f l4 hM hA hG hF hg9 hR hsb hso
      refine st_iload_n (q := 13) dX7_isAsSeen_12 rfl rfl rfl ?_
      refine st_bipush (q := 15) dX7_isAsSeen_13 rfl bp_20 ?_
      refine st_icmp_gt (q := 18) (tgt := 120) dX7_isAsSeen_15 rfl rfl (fun c_15 => False.elim (absurd c_15 (nI_nlt (a := 20) (b := i) (by omega) (by omega)))) (fun c_15 => ?_)
      refine st_aload_n (q := 19) dX7_isAsSeen_18 rfl rfl rfl ?_
      refine g_getA (q := 22) dX7_isAsSeen_19 rfl fl_X7_28.g hM rfl ?_
      refine st_bipush (q := 24) dX7_isAsSeen_22 rfl bp_21 ?_
      refine st_iload_n (q := 25) dX7_isAsSeen_24 rfl rfl rfl ?_
      refine st_imul (q := 26) dX7_isAsSeen_25 rfl ?_
      refine st_iload_n (q := 27) dX7_isAsSeen_26 rfl rfl rfl ?_
      refine st_iadd (q := 28) dX7_isAsSeen_27 rfl ?_
      refine st_aload_n (q := 29) dX7_isAsSeen_28 rfl rfl rfl ?_
      refine g_getA (q := 32) dX7_isAsSeen_29 rfl fl_X7_7.g hM rfl ?_
      refine st_sipush (q := 35) dX7_isAsSeen_32 rfl sp_354 ?_
      refine m_sld (q := 36) dX7_isAsSeen_35 rfl hM (by exact ev_ix_nI (j := 354) (by decide) (by decide)) ?_
      have e354 : f 354 = dysT U dd nh nt i 17 0 := hR.1.so.1.symm
      rw [e354]
      refine m_ast (q := 37) dX7_isAsSeen_36 rfl hM (i := 23) (by decide) rfl (by exact ixm (a := 21) (m := r) (c := i) (by omega) (by decide)) (fun w hM hF_ => ?_)
      replace hF := Fr.tr hF hF_
      replace hsb : ∀ d, d < i + 1 → tup S 23 (21 * r + i) (dysT U dd nh nt i 17 0) 23 (21 * r + d) = dysT U dd nh nt d 17 0 := fun d hd => by
        rw [tup_s]
        by_cases z : d = i
        · subst z; rw [pk_us]
        · rw [pk_un (by omega)]; exact hsb d (by omega)
      replace hso : ∀ j, (j < 21 * r ∨ 21 * r + 21 ≤ j) → tup S 23 (21 * r + i) (dysT U dd nh nt i 17 0) 23 j = S0 23 j := fun j hj => by
        rw [tup_s, pk_un (by omega)]; exact hso j hj
      replace hg9 := hg9.qa (QA.sb (f := f) (j := 21 * r + i) (v := dysT U dd nh nt i 17 0))
      replace hG := hG.qa (QA.sb (j := 21 * r + i) (v := dysT U dd nh nt i 17 0))
      replace hA := hA.tr (QA.sb (j := 21 * r + i) (v := dysT U dd nh nt i 17 0))
      obtain ⟨Sx, hSx⟩ : ∃ Sx, Sx = tup S 23 (21 * r + i) (dysT U dd nh nt i 17 0) := ⟨_, rfl⟩
      rw [← hSx] at hM hsb hso hg9 hG hA
      clear hSx
      refine st_iconst (q := 38) dX7_isAsSeen_37 rfl ic_0 ?_
      refine st_istore (q := 40) (L' := [_, _, _, _, _]) dX7_isAsSeen_38 rfl (Nat.le_of_ble_eq_true rfl) rfl ?_
      have inn : ∀ (k2 e : Nat), e + k2 = sz → Ev E mX7_isAsSeen 40 [some (.ref 70), some (.int (nI r)), some (.int (zI (seenF Sg U dd nh nt sz i && seinF Sg U dd nh nt i e))), some (.int (nI i)), some (.int (nI e))] [] n w (0, 0) (fun a u v => ∃ S' f', a = some (.int (zI (seF Sg U dd nh nt sz))) ∧ u = n ∧ MR S' f' 70 n v ∧ QA S0 S' f0 f' ∧ (∀ d, d < 21 → S' 23 (21 * r + d) = dysT U dd nh nt d 17 0) ∧ (∀ j, (j < 21 * r ∨ 21 * r + 21 ≤ j) → S' 23 j = S0 23 j) ∧ Fr 70 82 w0 v) := by
        intro k2
        induction k2 with
        | zero =>
          intro e hi2
          obtain rfl : sz = e := by omega
          refine st_iload (q := 42) dX7_isAsSeen_40 rfl rfl ?_
          refine st_aload_n (q := 43) dX7_isAsSeen_42 rfl rfl rfl ?_
          refine m_get (q := 46) dX7_isAsSeen_43 rfl fl_X7_142.g hM (by decide) rfl ?_
          refine st_icmp_ge (q := 49) (tgt := 100) dX7_isAsSeen_46 rfl rfl (fun c_46 => ?_) (fun c_46 => False.elim (c_46 (by rw [hg9.2.1]; exact Int32.le_refl _)))
          refine st_aload_n (q := 101) dX7_isAsSeen_100 rfl rfl rfl ?_
          refine st_sipush (q := 104) dX7_isAsSeen_101 rfl sp_284 ?_
          refine st_aload_n (q := 105) dX7_isAsSeen_104 rfl rfl rfl ?_
          refine st_sipush (q := 108) dX7_isAsSeen_105 rfl sp_284 ?_
          refine sp_V1 (q := 111) (M' := mX7_riseOn) dX7_isAsSeen_108 rfl ok_X7_riseOn mk_X7_riseOn ml_X7_194 ⟨Nat.le_of_ble_eq_true rfl, Nat.le_of_ble_eq_true rfl⟩ rfl (Nat.le_of_ble_eq_true rfl) (g_rv hM rfl) ⟨rfl, rfl⟩ (c_X7_riseOn hM (p := 284) (by decide) hR.ed (by omega)) ?_
          refine sm_V2 (q := 114) (M' := mX7_dayOn) dX7_isAsSeen_111 rfl ok_X7_dayOn mk_X7_dayOn ml_X7_197 ⟨Nat.le_of_ble_eq_true rfl, Nat.le_of_ble_eq_true rfl⟩ rfl (Nat.le_of_ble_eq_true rfl) (g_rv hM rfl) ⟨rfl, rfl⟩ (c_dayT hM hG hR) ?_
          intro _ n w h9 _
          obtain ⟨f, rfl, rfl, hM, hA_, hR, hF_⟩ := h9
          replace hg9 := hg9.qa hA_
          replace hG := hG.qa hA_
          replace hA := hA.tr hA_
          replace hF := Fr.tr hF hF_
          refine st_iinc (q := 117) (L' := [_, _, _, _, _]) dX7_isAsSeen_114 rfl rfl (nI_succ _).symm (Nat.le_of_ble_eq_true rfl) rfl ?_
          refine st_goto (q := 12) dX7_isAsSeen_117 rfl ?_
          have ih9 := ih (i + 1) (by omega) w Sx f
          rw [seenF_s] at ih9
          exact ih9 _ hM hA hG hF hg9 hR hsb hso
        | succ k2 ih2 =>
          intro e hi2
          refine st_iload (q := 42) dX7_isAsSeen_40 rfl rfl ?_
          refine st_aload_n (q := 43) dX7_isAsSeen_42 rfl rfl rfl ?_
          refine m_get (q := 46) dX7_isAsSeen_43 rfl fl_X7_142.g hM (by decide) rfl ?_
          refine st_icmp_ge (q := 49) (tgt := 100) dX7_isAsSeen_46 rfl rfl (fun c_46 => False.elim (absurd (by rw [← hg9.2.1]; exact c_46) (nI_ge (a := e) (b := sz) (by omega) (by omega)))) (fun c_46 => ?_)
          refine st_iload_n (q := 50) dX7_isAsSeen_49 rfl rfl rfl ?_
          refine st_if_eq (q := 53) (tgt := 92) dX7_isAsSeen_50 rfl rfl (fun c_50 => ?_) (fun c_50 => ?_)
          · refine st_iconst (q := 93) dX7_isAsSeen_92 rfl ic_0 ?_
            refine st_istore_n (q := 94) (L' := [_, _, _, _, _]) dX7_isAsSeen_93 rfl rfl (Nat.le_of_ble_eq_true rfl) rfl ?_
            refine st_iinc (q := 97) (L' := [_, _, _, _, _]) dX7_isAsSeen_94 rfl rfl (nI_succ _).symm (Nat.le_of_ble_eq_true rfl) rfl ?_
            refine st_goto (q := 40) dX7_isAsSeen_97 rfl ?_
            have ih9 := ih2 (e + 1) (by omega)
            have hin : seinF Sg U dd nh nt i (e + 1) = (seinF Sg U dd nh nt i e && (!decide ((Sg 0 e).toNatClampNeg = i) || decide (dysT U dd nh nt i 17 0 = Sg 1 e))) := all_succ _ e
            rw [hin] at ih9
            first
              | (have b0 : (seenF Sg U dd nh nt sz i && seinF Sg U dd nh nt i e) = false := zI_0.mp c_50
                 rw [← Bool.and_assoc, b0] at ih9; exact ih9)
              | (have b1 : (seenF Sg U dd nh nt sz i && seinF Sg U dd nh nt i e) = true := zI_1.mp c_50
                 rw [← Bool.and_assoc, b1, ed, nI_clamp (by omega), decide_eq_false (fun z => c_63 (by rw [z]))] at ih9; exact ih9)
              | (have b1 : (seenF Sg U dd nh nt sz i && seinF Sg U dd nh nt i e) = true := zI_1.mp c_50
                 rw [← Bool.and_assoc, b1, decide_eq_true c_85, Bool.or_true] at ih9; exact ih9)
              | (have b1 : (seenF Sg U dd nh nt sz i && seinF Sg U dd nh nt i e) = true := zI_1.mp c_50
                 rw [← Bool.and_assoc, b1, ed, nI_clamp (by omega), decide_eq_true (nI_ij (by omega) (by omega) c_63), decide_eq_false c_85] at ih9; exact ih9)
          · obtain ⟨d, hd, ed⟩ := hg9.1.2.2 e (by omega)
            have es0 := (hg9.2.2 e (by omega)).1
            have es1 := (hg9.2.2 e (by omega)).2
            refine st_aload_n (q := 54) dX7_isAsSeen_53 rfl rfl rfl ?_
            refine g_getA (q := 57) dX7_isAsSeen_54 rfl fl_X7_25.g hM rfl ?_
            refine st_iconst (q := 58) dX7_isAsSeen_57 rfl ic_2 ?_
            refine st_iload (q := 60) dX7_isAsSeen_58 rfl rfl ?_
            refine st_imul (q := 61) dX7_isAsSeen_60 rfl ?_
            refine m_ald (q := 62) dX7_isAsSeen_61 rfl hM (i := 21) (by decide) rfl (by exact ixm1 (a := 2) (m := e) (by omega) (by decide)) ?_
            rw [es0, ed]
            refine st_iload_n (q := 63) dX7_isAsSeen_62 rfl rfl rfl ?_
            refine st_icmp_ne (q := 66) (tgt := 88) dX7_isAsSeen_63 rfl rfl (fun c_63 => ?_) (fun c_63 => ?_)
            · refine st_iconst (q := 89) dX7_isAsSeen_88 rfl ic_1 ?_
              refine st_goto (q := 93) dX7_isAsSeen_89 rfl ?_
              refine st_istore_n (q := 94) (L' := [_, _, _, _, _]) dX7_isAsSeen_93 rfl rfl (Nat.le_of_ble_eq_true rfl) rfl ?_
              refine st_iinc (q := 97) (L' := [_, _, _, _, _]) dX7_isAsSeen_94 rfl rfl (nI_succ _).symm (Nat.le_of_ble_eq_true rfl) rfl ?_
              refine st_goto (q := 40) dX7_isAsSeen_97 rfl ?_
              have ih9 := ih2 (e + 1) (by omega)
              have hin : seinF Sg U dd nh nt i (e + 1) = (seinF Sg U dd nh nt i e && (!decide ((Sg 0 e).toNatClampNeg = i) || decide (dysT U dd nh nt i 17 0 = Sg 1 e))) := all_succ _ e
              rw [hin] at ih9
              first
                | (have b0 : (seenF Sg U dd nh nt sz i && seinF Sg U dd nh nt i e) = false := zI_0.mp c_50
                   rw [← Bool.and_assoc, b0] at ih9; exact ih9)
                | (have b1 : (seenF Sg U dd nh nt sz i && seinF Sg U dd nh nt i e) = true := zI_1.mp c_50
                   rw [← Bool.and_assoc, b1, ed, nI_clamp (by omega), decide_eq_false (fun z => c_63 (by rw [z]))] at ih9; exact ih9)
                | (have b1 : (seenF Sg U dd nh nt sz i && seinF Sg U dd nh nt i e) = true := zI_1.mp c_50
                   rw [← Bool.and_assoc, b1, decide_eq_true c_85, Bool.or_true] at ih9; exact ih9)
                | (have b1 : (seenF Sg U dd nh nt sz i && seinF Sg U dd nh nt i e) = true := zI_1.mp c_50
                   rw [← Bool.and_assoc, b1, ed, nI_clamp (by omega), decide_eq_true (nI_ij (by omega) (by omega) c_63), decide_eq_false c_85] at ih9; exact ih9)
            · refine st_aload_n (q := 67) dX7_isAsSeen_66 rfl rfl rfl ?_
              refine g_getA (q := 70) dX7_isAsSeen_67 rfl fl_X7_7.g hM rfl ?_
              refine st_sipush (q := 73) dX7_isAsSeen_70 rfl sp_354 ?_
              refine m_sld (q := 74) dX7_isAsSeen_73 rfl hM (by exact ev_ix_nI (j := 354) (by decide) (by decide)) ?_
              refine st_aload_n (q := 75) dX7_isAsSeen_74 rfl rfl rfl ?_
              refine g_getA (q := 78) dX7_isAsSeen_75 rfl fl_X7_25.g hM rfl ?_
              refine st_iconst (q := 79) dX7_isAsSeen_78 rfl ic_2 ?_
              refine st_iload (q := 81) dX7_isAsSeen_79 rfl rfl ?_
              refine st_imul (q := 82) dX7_isAsSeen_81 rfl ?_
              refine st_iconst (q := 83) dX7_isAsSeen_82 rfl ic_1 ?_
              refine st_iadd (q := 84) dX7_isAsSeen_83 rfl ?_
              refine m_ald (q := 85) dX7_isAsSeen_84 rfl hM (i := 21) (by decide) rfl (by exact ixm (a := 2) (m := e) (c := 1) (by omega) (by decide)) ?_
              rw [e354, es1]
              refine st_icmp_ne (q := 88) (tgt := 92) dX7_isAsSeen_85 rfl rfl (fun c_85 => ?_) (fun c_85 => ?_)
              · refine st_iconst (q := 93) dX7_isAsSeen_92 rfl ic_0 ?_
                refine st_istore_n (q := 94) (L' := [_, _, _, _, _]) dX7_isAsSeen_93 rfl rfl (Nat.le_of_ble_eq_true rfl) rfl ?_
                refine st_iinc (q := 97) (L' := [_, _, _, _, _]) dX7_isAsSeen_94 rfl rfl (nI_succ _).symm (Nat.le_of_ble_eq_true rfl) rfl ?_
                refine st_goto (q := 40) dX7_isAsSeen_97 rfl ?_
                have ih9 := ih2 (e + 1) (by omega)
                have hin : seinF Sg U dd nh nt i (e + 1) = (seinF Sg U dd nh nt i e && (!decide ((Sg 0 e).toNatClampNeg = i) || decide (dysT U dd nh nt i 17 0 = Sg 1 e))) := all_succ _ e
                rw [hin] at ih9
                first
                  | (have b0 : (seenF Sg U dd nh nt sz i && seinF Sg U dd nh nt i e) = false := zI_0.mp c_50
                     rw [← Bool.and_assoc, b0] at ih9; exact ih9)
                  | (have b1 : (seenF Sg U dd nh nt sz i && seinF Sg U dd nh nt i e) = true := zI_1.mp c_50
                     rw [← Bool.and_assoc, b1, ed, nI_clamp (by omega), decide_eq_false (fun z => c_63 (by rw [z]))] at ih9; exact ih9)
                  | (have b1 : (seenF Sg U dd nh nt sz i && seinF Sg U dd nh nt i e) = true := zI_1.mp c_50
                     rw [← Bool.and_assoc, b1, decide_eq_true c_85, Bool.or_true] at ih9; exact ih9)
                  | (have b1 : (seenF Sg U dd nh nt sz i && seinF Sg U dd nh nt i e) = true := zI_1.mp c_50
                     rw [← Bool.and_assoc, b1, ed, nI_clamp (by omega), decide_eq_true (nI_ij (by omega) (by omega) c_63), decide_eq_false c_85] at ih9; exact ih9)
              · refine st_iconst (q := 89) dX7_isAsSeen_88 rfl ic_1 ?_
                refine st_goto (q := 93) dX7_isAsSeen_89 rfl ?_
                refine st_istore_n (q := 94) (L' := [_, _, _, _, _]) dX7_isAsSeen_93 rfl rfl (Nat.le_of_ble_eq_true rfl) rfl ?_
                refine st_iinc (q := 97) (L' := [_, _, _, _, _]) dX7_isAsSeen_94 rfl rfl (nI_succ _).symm (Nat.le_of_ble_eq_true rfl) rfl ?_
                refine st_goto (q := 40) dX7_isAsSeen_97 rfl ?_
                have ih9 := ih2 (e + 1) (by omega)
                have hin : seinF Sg U dd nh nt i (e + 1) = (seinF Sg U dd nh nt i e && (!decide ((Sg 0 e).toNatClampNeg = i) || decide (dysT U dd nh nt i 17 0 = Sg 1 e))) := all_succ _ e
                rw [hin] at ih9
                first
                  | (have b0 : (seenF Sg U dd nh nt sz i && seinF Sg U dd nh nt i e) = false := zI_0.mp c_50
                     rw [← Bool.and_assoc, b0] at ih9; exact ih9)
                  | (have b1 : (seenF Sg U dd nh nt sz i && seinF Sg U dd nh nt i e) = true := zI_1.mp c_50
                     rw [← Bool.and_assoc, b1, ed, nI_clamp (by omega), decide_eq_false (fun z => c_63 (by rw [z]))] at ih9; exact ih9)
                  | (have b1 : (seenF Sg U dd nh nt sz i && seinF Sg U dd nh nt i e) = true := zI_1.mp c_50
                     rw [← Bool.and_assoc, b1, decide_eq_true c_85, Bool.or_true] at ih9; exact ih9)
                  | (have b1 : (seenF Sg U dd nh nt sz i && seinF Sg U dd nh nt i e) = true := zI_1.mp c_50
                     rw [← Bool.and_assoc, b1, ed, nI_clamp (by omega), decide_eq_true (nI_ij (by omega) (by omega) c_63), decide_eq_false c_85] at ih9; exact ih9)
      have inn0 := inn sz 0 (by omega)
      rw [show (seenF Sg U dd nh nt sz i && seinF Sg U dd nh nt i 0) = seenF Sg U dd nh nt sz i from Bool.and_true _] at inn0
      exact inn0
  refine st_aload_n (q := 1) dX7_isAsSeen_0 rfl rfl rfl ?_
  refine st_iconst (q := 2) dX7_isAsSeen_1 rfl ic_0 ?_
  refine st_sipush (q := 5) dX7_isAsSeen_2 rfl sp_284 ?_
  refine sm_V2 (q := 8) (M' := mX7_copies) dX7_isAsSeen_5 rfl ok_X7_copies mk_X7_copies ml_X7_200 ⟨Nat.le_of_ble_eq_true rfl, Nat.le_of_ble_eq_true rfl⟩ rfl (Nat.le_of_ble_eq_true rfl) (g_rv hM rfl) ⟨rfl, rfl⟩ (c_copyT hM hG (c := 284) (by decide) (by decide)) ?_
  intro _ n w h9 _
  obtain ⟨f, rfl, rfl, hM, hA_, hR, hF_⟩ := h9
  replace hg9 := hg9.qa hA_
  replace hG := hG.qa hA_
  replace hA := hA.tr hA_
  replace hF := Fr.tr hF hF_
  refine st_iconst (q := 9) dX7_isAsSeen_8 rfl ic_1 ?_
  refine st_istore_n (q := 10) (L' := [_, _, _, _, _]) dX7_isAsSeen_9 rfl rfl (Nat.le_of_ble_eq_true rfl) rfl ?_
  refine st_iconst (q := 11) dX7_isAsSeen_10 rfl ic_0 ?_
  refine st_istore_n (q := 12) (L' := [_, _, _, _, _]) dX7_isAsSeen_11 rfl rfl (Nat.le_of_ble_eq_true rfl) rfl ?_
  have lp0 := lp 21 0 (by omega) w S f none hM hA hG hF hg9 hR (fun d hd => absurd hd (Nat.not_lt_zero d)) (fun j _ => hSS j)
  rw [seenF_0] at lp0
  exact lp0
set_option maxRecDepth 100000 in
set_option maxHeartbeats 4000000 in
theorem c_X7_numbersAt {E : ev_E} {n : Nat} {w : ev_W} {S0 : gT} {f0 : Nat → Int32} {w0 : ev_W} (hF : Fr 70 82 w0 w) (hM : MR S0 f0 70 n w) {T : gT} {nh nt dd : Nat} (hG : GQ S0 f0 T nh nt dd) {Sg : gT} {sz : Nat} (hg9 : SG Sg S0 sz) {p9 g j mo : Nat} (hp9 : p9 < 71) (hmo : mo ≤ 30) (hset : ∀ v, v ≤ mo → RQ (tup T g j (nI v)) (upd f0 p9 (nI v)) 0 nh nt dd) : Ct E mX7_numbersAt [.ref 70, .int (nI p9), .int (nI mo)] n w (fun a u v => ∃ S' f', a = some (.int (bsF (fun r => seF Sg (tup T g j (nI r)) dd nh nt sz) (mo + 1))) ∧ u = n ∧ MR S' f' 70 n v ∧ QA S0 S' f0 f' ∧ (∀ v, v ≤ mo → ∀ d, d < 21 → S' 23 (21 * v + d) = dysT (tup T g j (nI v)) dd nh nt d 17 0) ∧ Fr 70 82 w0 v) := by
  refine Ct.of 3 (by decide) (Nat.le_of_ble_eq_true rfl) rfl ?_
  have hd9 := hG.2.2.2
  have h1s := hG.2.1
  have h2s := hG.2.2.1
  have lp : ∀ (k i : Nat), i + k = mo + 1 → ∀ (w1 : ev_W) (S1 : gT) (f1 : Nat → Int32), MR S1 f1 70 n w1 → Fr 70 82 w0 w1 → SG Sg S1 sz → (∀ q, q < 213 → q ≠ p9 → f1 q = f0 q) → (∀ q, q ≠ 20 → q ≠ 23 → S1 q = S0 q) → (∀ v, v < i → ∀ d, d < 21 → S1 23 (21 * v + d) = dysT (tup T g j (nI v)) dd nh nt d 17 0) → Ev E mX7_numbersAt 13 [some (.ref 70), some (.int (nI p9)), some (.int (nI mo)), some (.int (f0 p9)), some (.int (bsF (fun r => seF Sg (tup T g j (nI r)) dd nh nt sz) i)), some (.int (nI i))] [] n w1 (0, 0) (fun a u v => ∃ S' f', a = some (.int (bsF (fun r => seF Sg (tup T g j (nI r)) dd nh nt sz) (mo + 1))) ∧ u = n ∧ MR S' f' 70 n v ∧ QA S0 S' f0 f' ∧ (∀ v, v ≤ mo → ∀ d, d < 21 → S' 23 (21 * v + d) = dysT (tup T g j (nI v)) dd nh nt d 17 0) ∧ Fr 70 82 w0 v) := by
    clear hM hF hG hg9
    intro k
    induction k with
    | zero =>
      intro i hi w S f hM hF hg9 hf1 hS1 hsb
      obtain rfl : mo + 1 = i := by omega
      refine st_iload (q := 15) dX7_numbersAt_13 rfl rfl ?_
      refine st_iload_n (q := 16) dX7_numbersAt_15 rfl rfl rfl ?_
      refine st_icmp_gt (q := 19) (tgt := 55) dX7_numbersAt_16 rfl rfl (fun c_16 => ?_) (fun c_16 => False.elim (c_16 ((nI_ltiff (a := mo) (b := mo + 1) (by omega) (by omega)).mpr (by omega))))
      refine st_aload_n (q := 56) dX7_numbersAt_55 rfl rfl rfl ?_
      refine g_getA (q := 59) dX7_numbersAt_56 rfl fl_X7_7.g hM rfl ?_
      refine st_iload_n (q := 60) dX7_numbersAt_59 rfl rfl rfl ?_
      refine st_iload_n (q := 61) dX7_numbersAt_60 rfl rfl rfl ?_
      refine m_sst (q := 62) dX7_numbersAt_61 rfl hM (by exact ev_ix_nI (j := p9) (by omega) (by decide)) (fun w hM hF_ => ?_)
      replace hF := Fr.tr hF hF_
      refine st_iload (q := 64) dX7_numbersAt_62 rfl rfl ?_
      refine st_ireturn dX7_numbersAt_64 rfl ?_
      have hq9 : ∀ q, q < 213 → upd f p9 (f0 p9) q = f0 q := fun q hq => by
        by_cases z : q = p9
        · rw [z, pk_us]
        · rw [pk_un z]; exact hf1 q hq z
      exact ⟨S, _, rfl, rfl, hM, ⟨hq9, hS1⟩, fun v hv d hd => hsb v (by omega) d hd, hF⟩
    | succ k ih =>
      intro i hi w S f hM hF hg9 hf1 hS1 hsb
      refine st_iload (q := 15) dX7_numbersAt_13 rfl rfl ?_
      refine st_iload_n (q := 16) dX7_numbersAt_15 rfl rfl rfl ?_
      refine st_icmp_gt (q := 19) (tgt := 55) dX7_numbersAt_16 rfl rfl (fun c_16 => False.elim (absurd c_16 (nI_nlt (a := mo) (b := i) (by omega) (by omega)))) (fun c_16 => ?_)
      refine st_aload_n (q := 20) dX7_numbersAt_19 rfl rfl rfl ?_
      refine g_getA (q := 23) dX7_numbersAt_20 rfl fl_X7_7.g hM rfl ?_
      refine st_iload_n (q := 24) dX7_numbersAt_23 rfl rfl rfl ?_
      refine st_iload (q := 26) dX7_numbersAt_24 rfl rfl ?_
      refine m_sst (q := 27) dX7_numbersAt_26 rfl hM (by exact ev_ix_nI (j := p9) (by omega) (by decide)) (fun w hM hF_ => ?_)
      replace hF := Fr.tr hF hF_
      have hG : GQ S (upd f p9 (nI i)) (tup T g j (nI i)) nh nt dd := by
        refine ⟨(hset i (by omega)).move (fun q hq => ?_), by rw [hS1 1 (by decide) (by decide)]; exact h1s, by rw [hS1 2 (by decide) (by decide)]; exact h2s, hd9⟩
        rw [Nat.zero_add]
        by_cases z : q = p9
        · rw [z, pk_us, pk_us]
        · rw [pk_un z, pk_un z]; exact hf1 q (by omega) z
      refine st_iload (q := 29) dX7_numbersAt_27 rfl rfl ?_
      refine st_aload_n (q := 30) dX7_numbersAt_29 rfl rfl rfl ?_
      refine st_iload (q := 32) dX7_numbersAt_30 rfl rfl ?_
      refine sm_V1 (q := 35) (M' := mX7_isAsSeen) dX7_numbersAt_32 rfl ok_X7_isAsSeen mk_X7_isAsSeen ml_X7_229 ⟨Nat.le_of_ble_eq_true rfl, Nat.le_of_ble_eq_true rfl⟩ rfl (Nat.le_of_ble_eq_true rfl) (g_rv hM rfl) ⟨rfl, rfl⟩ (c_X7_isAsSeen Fr.rf hM QA.rf hG hg9 (fun _ => rfl) (r := i) (by omega)) ?_
      intro _ n w h9 _
      obtain ⟨S2, f2, rfl, rfl, hM, hA_, hn1, hn2, hF_⟩ := h9
      replace hF := Fr.tr hF hF_
      have hsb2 : ∀ v, v < i + 1 → ∀ d, d < 21 → S2 23 (21 * v + d) = dysT (tup T g j (nI v)) dd nh nt d 17 0 := fun v hv d hd => by
        by_cases z : v = i
        · subst z; exact hn1 d hd
        · rw [hn2 _ (by omega)]; exact hsb v (by omega) d hd
      have hf2 : ∀ q, q < 213 → q ≠ p9 → f2 q = f0 q := fun q hq z => by rw [hA_.1 q hq, pk_un z]; exact hf1 q hq z
      have hS2 : ∀ q, q ≠ 20 → q ≠ 23 → S2 q = S0 q := fun q h1 h2 => by rw [hA_.2 q h1 h2]; exact hS1 q h1 h2
      refine st_if_eq (q := 38) (tgt := 45) dX7_numbersAt_35 rfl rfl (fun c_35 => ?_) (fun c_35 => ?_)
      · refine st_iconst (q := 46) dX7_numbersAt_45 rfl ic_0 ?_
        refine st_ior (q := 47) dX7_numbersAt_46 rfl ?_
        refine st_istore (q := 49) (L' := [_, _, _, _, _, _]) dX7_numbersAt_47 rfl (Nat.le_of_ble_eq_true rfl) rfl ?_
        refine st_iinc (q := 52) (L' := [_, _, _, _, _, _]) dX7_numbersAt_49 rfl rfl (nI_succ _).symm (Nat.le_of_ble_eq_true rfl) rfl ?_
        refine st_goto (q := 13) dX7_numbersAt_52 rfl ?_
        have ih9 := ih (i + 1) (by omega) w S2 f2 hM hF (hg9.qa hA_) hf2 hS2 hsb2
        rw [bsF] at ih9
        first
          | (rw [if_neg (by rw [zI_0.mp c_35]; decide)] at ih9; exact ih9)
          | (rw [if_pos (zI_1.mp c_35)] at ih9; exact ih9)
      · refine st_iconst (q := 39) dX7_numbersAt_38 rfl ic_1 ?_
        refine st_iload (q := 41) dX7_numbersAt_39 rfl rfl ?_
        refine st_ishl (q := 42) dX7_numbersAt_41 rfl ?_
        refine st_goto (q := 46) dX7_numbersAt_42 rfl ?_
        refine st_ior (q := 47) dX7_numbersAt_46 rfl ?_
        refine st_istore (q := 49) (L' := [_, _, _, _, _, _]) dX7_numbersAt_47 rfl (Nat.le_of_ble_eq_true rfl) rfl ?_
        refine st_iinc (q := 52) (L' := [_, _, _, _, _, _]) dX7_numbersAt_49 rfl rfl (nI_succ _).symm (Nat.le_of_ble_eq_true rfl) rfl ?_
        refine st_goto (q := 13) dX7_numbersAt_52 rfl ?_
        have ih9 := ih (i + 1) (by omega) w S2 f2 hM hF (hg9.qa hA_) hf2 hS2 hsb2
        rw [bsF] at ih9
        first
          | (rw [if_neg (by rw [zI_0.mp c_35]; decide)] at ih9; exact ih9)
          | (rw [if_pos (zI_1.mp c_35)] at ih9; exact ih9)
  refine st_aload_n (q := 1) dX7_numbersAt_0 rfl rfl rfl ?_
  refine g_getA (q := 4) dX7_numbersAt_1 rfl fl_X7_7.g hM rfl ?_
  refine st_iload_n (q := 5) dX7_numbersAt_4 rfl rfl rfl ?_
  refine m_sld (q := 6) dX7_numbersAt_5 rfl hM (by exact ev_ix_nI (j := p9) (by omega) (by decide)) ?_
  refine st_istore_n (q := 7) (L' := [_, _, _, _, _, _]) dX7_numbersAt_6 rfl rfl (Nat.le_of_ble_eq_true rfl) rfl ?_
  refine st_iconst (q := 8) dX7_numbersAt_7 rfl ic_0 ?_
  refine st_istore (q := 10) (L' := [_, _, _, _, _, _]) dX7_numbersAt_8 rfl (Nat.le_of_ble_eq_true rfl) rfl ?_
  refine st_iconst (q := 11) dX7_numbersAt_10 rfl ic_0 ?_
  refine st_istore (q := 13) (L' := [_, _, _, _, _, _]) dX7_numbersAt_11 rfl (Nat.le_of_ble_eq_true rfl) rfl ?_
  exact lp (mo + 1) 0 (by omega) w S0 f0 hM hF hg9 (fun _ _ _ => rfl) (fun _ _ _ => rfl) (fun v hv => absurd hv (Nat.not_lt_zero v))
set_option maxRecDepth 100000 in
set_option maxHeartbeats 4000000 in
theorem c_X7_kinds {E : ev_E} {n : Nat} {w : ev_W} {S0 S : gT} {f0 f : Nat → Int32} {w0 : ev_W} (hF : Fr 70 82 w0 w) (hM : MR S f 70 n w) (hA : QA S0 S f0 f) {T : gT} {nh nt dd : Nat} (hG : GQ S f T nh nt dd) {Sg : gT} {sz : Nat} (hg9 : SG Sg S sz) {x : Int32} : Ct E mX7_kinds [.ref 70, .int x] n w (ev_mr (kindsS Sg T nh nt dd sz x) n w0 (QR S0 f0 n)) := by
  refine Ct.of 0 (by decide) (Nat.le_of_ble_eq_true rfl) rfl ?_
  refine st_aload_n (q := 1) dX7_kinds_0 rfl rfl rfl ?_
  refine st_iload_n (q := 2) dX7_kinds_1 rfl rfl rfl ?_
  refine sp_V1 (q := 5) (M' := mX7_isThing) dX7_kinds_2 rfl ok_X7_isThing mk_X7_isThing ml_X7_176 ⟨Nat.le_of_ble_eq_true rfl, Nat.le_of_ble_eq_true rfl⟩ rfl (Nat.le_of_ble_eq_true rfl) (g_rv hM rfl) ⟨rfl, rfl⟩ (c_X7_isThing hM) ?_
  refine st_if_eq (q := 8) (tgt := 20) dX7_kinds_5 rfl rfl (fun c_5 => ?_) (fun c_5 => ?_)
  · refine st_iconst (q := 21) dX7_kinds_20 rfl ic_m1 ?_
    refine st_ireturn dX7_kinds_21 rfl ?_
    first
      | exact ⟨by rw [kindsS, if_pos h1, hjc], rfl, ⟨_, _, hM, hA⟩, hF⟩
      | exact ⟨by rw [kindsS, if_neg (by rw [← hG.2.2.1, zI_0.mp c_5]; decide)], rfl, ⟨_, _, hM, hA⟩, hF⟩
  · have hN9 := hG.1.1.hnt
    obtain ⟨j, hj, rfl⟩ := inI_ix (by rw [← hG.2.2.1]; exact zI_1.mp c_5) (by omega)
    have h1 : inI (nI j) 0 (nI nt - 1) = true := by rw [← hG.2.2.1]; exact zI_1.mp c_5
    have hjc : (nI j).toNatClampNeg = j := nI_clamp (by omega)
    refine st_aload_n (q := 9) dX7_kinds_8 rfl rfl rfl ?_
    refine st_bipush (q := 11) dX7_kinds_9 rfl bp_20 ?_
    refine st_iload_n (q := 12) dX7_kinds_11 rfl rfl rfl ?_
    refine st_iadd (q := 13) dX7_kinds_12 rfl ?_
    refine st_iconst (q := 14) dX7_kinds_13 rfl ic_3 ?_
    rw [show (20 : Int32) + nI j = nI (20 + j) from by rw [← nI_add]; rfl]
    refine sm_V2 (q := 17) (M' := mX7_numbersAt) dX7_kinds_14 rfl ok_X7_numbersAt mk_X7_numbersAt ml_X7_232 ⟨Nat.le_of_ble_eq_true rfl, Nat.le_of_ble_eq_true rfl⟩ rfl (Nat.le_of_ble_eq_true rfl) (g_rv hM rfl) ⟨rfl, rfl⟩ (c_X7_numbersAt Fr.rf hM hG hg9 (p9 := 20 + j) (g := 7) (j := j) (mo := 3) (by omega) (by decide) (fun v hv => by have h8 := hG.1.set7 (k := j) hj (v := nI v) (rg_of (m := 3) (by omega) (by decide)); rw [Nat.zero_add] at h8; exact h8)) ?_
    intro _ n w h9 _
    obtain ⟨S, f, rfl, rfl, hM, hA_, hsb, hF_⟩ := h9
    replace hG := hG.qa hA_
    replace hA := hA.tr hA_
    replace hF := Fr.tr hF hF_
    refine st_goto (q := 21) dX7_kinds_17 rfl ?_
    refine st_ireturn dX7_kinds_21 rfl ?_
    first
      | exact ⟨by rw [kindsS, if_pos h1, hjc], rfl, ⟨_, _, hM, hA⟩, hF⟩
      | exact ⟨by rw [kindsS, if_neg (by rw [← hG.2.2.1, zI_0.mp c_5]; decide)], rfl, ⟨_, _, hM, hA⟩, hF⟩
set_option maxRecDepth 100000 in
set_option maxHeartbeats 4000000 in
theorem c_X7_leaks {E : ev_E} {n : Nat} {w : ev_W} {S0 S : gT} {f0 f : Nat → Int32} {w0 : ev_W} (hF : Fr 70 82 w0 w) (hM : MR S f 70 n w) (hA : QA S0 S f0 f) {T : gT} {nh nt dd : Nat} (hG : GQ S f T nh nt dd) {Sg : gT} {sz : Nat} (hg9 : SG Sg S sz) {x : Int32} : Ct E mX7_leaks [.ref 70, .int x] n w (ev_mr (leaksS Sg T nh nt dd sz x) n w0 (QR S0 f0 n)) := by
  refine Ct.of 0 (by decide) (Nat.le_of_ble_eq_true rfl) rfl ?_
  refine st_aload_n (q := 1) dX7_leaks_0 rfl rfl rfl ?_
  refine st_iload_n (q := 2) dX7_leaks_1 rfl rfl rfl ?_
  refine sp_V1 (q := 5) (M' := mX7_isHouse) dX7_leaks_2 rfl ok_X7_isHouse mk_X7_isHouse ml_X7_167 ⟨Nat.le_of_ble_eq_true rfl, Nat.le_of_ble_eq_true rfl⟩ rfl (Nat.le_of_ble_eq_true rfl) (g_rv hM rfl) ⟨rfl, rfl⟩ (c_X7_isHouse hM) ?_
  refine st_if_eq (q := 8) (tgt := 20) dX7_leaks_5 rfl rfl (fun c_5 => ?_) (fun c_5 => ?_)
  · refine st_iconst (q := 21) dX7_leaks_20 rfl ic_m1 ?_
    refine st_ireturn dX7_leaks_21 rfl ?_
    first
      | exact ⟨by rw [leaksS, if_pos h1, hjc], rfl, ⟨_, _, hM, hA⟩, hF⟩
      | exact ⟨by rw [leaksS, if_neg (by rw [← hG.2.1, zI_0.mp c_5]; decide)], rfl, ⟨_, _, hM, hA⟩, hF⟩
  · have hN9 := hG.1.1.hnh
    obtain ⟨j, hj, rfl⟩ := inI_ix (by rw [← hG.2.1]; exact zI_1.mp c_5) (by omega)
    have h1 : inI (nI j) 0 (nI nh - 1) = true := by rw [← hG.2.1]; exact zI_1.mp c_5
    have hjc : (nI j).toNatClampNeg = j := nI_clamp (by omega)
    refine st_aload_n (q := 9) dX7_leaks_8 rfl rfl rfl ?_
    refine st_bipush (q := 11) dX7_leaks_9 rfl bp_8 ?_
    refine st_iload_n (q := 12) dX7_leaks_11 rfl rfl rfl ?_
    refine st_iadd (q := 13) dX7_leaks_12 rfl ?_
    refine st_iconst (q := 14) dX7_leaks_13 rfl ic_3 ?_
    rw [show (8 : Int32) + nI j = nI (8 + j) from by rw [← nI_add]; rfl]
    refine sm_V2 (q := 17) (M' := mX7_numbersAt) dX7_leaks_14 rfl ok_X7_numbersAt mk_X7_numbersAt ml_X7_232 ⟨Nat.le_of_ble_eq_true rfl, Nat.le_of_ble_eq_true rfl⟩ rfl (Nat.le_of_ble_eq_true rfl) (g_rv hM rfl) ⟨rfl, rfl⟩ (c_X7_numbersAt Fr.rf hM hG hg9 (p9 := 8 + j) (g := 3) (j := j) (mo := 3) (by omega) (by decide) (fun v hv => by have h8 := hG.1.set3 (k := j) hj (v := nI v) (rg_of (m := 3) (by omega) (by decide)); rw [Nat.zero_add] at h8; exact h8)) ?_
    intro _ n w h9 _
    obtain ⟨S, f, rfl, rfl, hM, hA_, hsb, hF_⟩ := h9
    replace hG := hG.qa hA_
    replace hA := hA.tr hA_
    replace hF := Fr.tr hF hF_
    refine st_goto (q := 21) dX7_leaks_17 rfl ?_
    refine st_ireturn dX7_leaks_21 rfl ?_
    first
      | exact ⟨by rw [leaksS, if_pos h1, hjc], rfl, ⟨_, _, hM, hA⟩, hF⟩
      | exact ⟨by rw [leaksS, if_neg (by rw [← hG.2.1, zI_0.mp c_5]; decide)], rfl, ⟨_, _, hM, hA⟩, hF⟩
set_option maxRecDepth 100000 in
set_option maxHeartbeats 4000000 in
theorem c_X7_rooms {E : ev_E} {n : Nat} {w : ev_W} {S0 S : gT} {f0 f : Nat → Int32} {w0 : ev_W} (hF : Fr 70 82 w0 w) (hM : MR S f 70 n w) (hA : QA S0 S f0 f) {T : gT} {nh nt dd : Nat} (hG : GQ S f T nh nt dd) {Sg : gT} {sz : Nat} (hg9 : SG Sg S sz) {x : Int32} : Ct E mX7_rooms [.ref 70, .int x] n w (ev_mr (roomsS Sg T nh nt dd sz x) n w0 (QR S0 f0 n)) := by
  refine Ct.of 0 (by decide) (Nat.le_of_ble_eq_true rfl) rfl ?_
  refine st_aload_n (q := 1) dX7_rooms_0 rfl rfl rfl ?_
  refine st_iload_n (q := 2) dX7_rooms_1 rfl rfl rfl ?_
  refine sp_V1 (q := 5) (M' := mX7_isHouse) dX7_rooms_2 rfl ok_X7_isHouse mk_X7_isHouse ml_X7_167 ⟨Nat.le_of_ble_eq_true rfl, Nat.le_of_ble_eq_true rfl⟩ rfl (Nat.le_of_ble_eq_true rfl) (g_rv hM rfl) ⟨rfl, rfl⟩ (c_X7_isHouse hM) ?_
  refine st_if_eq (q := 8) (tgt := 20) dX7_rooms_5 rfl rfl (fun c_5 => ?_) (fun c_5 => ?_)
  · refine st_iconst (q := 21) dX7_rooms_20 rfl ic_m1 ?_
    refine st_ireturn dX7_rooms_21 rfl ?_
    first
      | exact ⟨by rw [roomsS, if_pos h1, hjc, rmI], rfl, ⟨_, _, hM, hA⟩, hF⟩
      | exact ⟨by rw [roomsS, if_neg (by rw [← hG.2.1, zI_0.mp c_5]; decide)], rfl, ⟨_, _, hM, hA⟩, hF⟩
  · have hN9 := hG.1.1.hnh
    obtain ⟨j, hj, rfl⟩ := inI_ix (by rw [← hG.2.1]; exact zI_1.mp c_5) (by omega)
    have h1 : inI (nI j) 0 (nI nh - 1) = true := by rw [← hG.2.1]; exact zI_1.mp c_5
    have hjc : (nI j).toNatClampNeg = j := nI_clamp (by omega)
    refine st_aload_n (q := 9) dX7_rooms_8 rfl rfl rfl ?_
    refine st_iconst (q := 10) dX7_rooms_9 rfl ic_4 ?_
    refine st_iload_n (q := 11) dX7_rooms_10 rfl rfl rfl ?_
    refine st_iadd (q := 12) dX7_rooms_11 rfl ?_
    refine st_bipush (q := 14) dX7_rooms_12 rfl bp_30 ?_
    rw [show (4 : Int32) + nI j = nI (4 + j) from by rw [← nI_add]; rfl]
    refine sm_V2 (q := 17) (M' := mX7_numbersAt) dX7_rooms_14 rfl ok_X7_numbersAt mk_X7_numbersAt ml_X7_232 ⟨Nat.le_of_ble_eq_true rfl, Nat.le_of_ble_eq_true rfl⟩ rfl (Nat.le_of_ble_eq_true rfl) (g_rv hM rfl) ⟨rfl, rfl⟩ (c_X7_numbersAt Fr.rf hM hG hg9 (p9 := 4 + j) (g := 2) (j := j) (mo := 30) (by omega) (by decide) (fun v hv => by have h8 := hG.1.set2 (k := j) hj (v := nI v) (rg_of (m := 40) (by omega) (by decide)); rw [Nat.zero_add] at h8; exact h8)) ?_
    intro _ n w h9 _
    obtain ⟨S, f, rfl, rfl, hM, hA_, hsb, hF_⟩ := h9
    replace hG := hG.qa hA_
    replace hA := hA.tr hA_
    replace hF := Fr.tr hF hF_
    refine st_goto (q := 21) dX7_rooms_17 rfl ?_
    refine st_ireturn dX7_rooms_21 rfl ?_
    first
      | exact ⟨by rw [roomsS, if_pos h1, hjc, rmI], rfl, ⟨_, _, hM, hA⟩, hF⟩
      | exact ⟨by rw [roomsS, if_neg (by rw [← hG.2.1, zI_0.mp c_5]; decide)], rfl, ⟨_, _, hM, hA⟩, hF⟩
