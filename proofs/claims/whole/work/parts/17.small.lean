def gzb (lay : gL) : Bool := lay.all (fun q => !(q.1 == 0) || q == (0, 0, 0, 0))
theorem gnth_mem : ∀ (l : gL) (i : Nat) (q : Nat × Nat × Nat × Nat), gnth l i = some q → q ∈ l
  | [], _, _, h => by simp [gnth] at h
  | a :: l, 0, q, h => by cases h; exact List.mem_cons_self
  | _ :: l, i + 1, q, h => List.mem_cons_of_mem _ (gnth_mem l i q h)
theorem gz_of {lay : gL} (h : gzb lay = true) : ∀ i q, gnth lay i = some q → q.1 = 0 → q = (0, 0, 0, 0) := by
  intro i q hi h0
  have := List.all_eq_true.mp h q (gnth_mem _ _ _ hi)
  simpa [h0] using this
theorem gzX5 : ∀ i q, gnth layX5 i = some q → q.1 = 0 → q = (0, 0, 0, 0) := gz_of rfl
set_option maxRecDepth 100000 in
set_option maxHeartbeats 4000000 in
theorem c_J7_fill_53178 {E : ev_E} {n : Nat} {w : ev_W} {c len : Nat} {f : Nat → Int32} {x : Int32} (hc : c < n) (hw : w c = aI len f) (hl : len < 1000) : Ct E mJ7_fill_53178 [.ref c, .int x] n w (fun a m u => a = none ∧ m = n ∧ (∃ g, u c = aI len g ∧ ∀ j, j < len → g j = x) ∧ ∀ q, q ≠ c → u q = w q) := by
  refine Ct.of 2 (by decide) (Nat.le_of_ble_eq_true rfl) rfl ?_
  have lp : ∀ (k i : Nat), i + k = len → ∀ (w1 : ev_W) (g : Nat → Int32), w1 c = aI len g → (∀ j, j < i → g j = x) → (∀ q, q ≠ c → w1 q = w q) → Ev E mJ7_fill_53178 5 [some (.ref c), some (.int x), some (.int (nI i)), some (.int (nI len))] [] n w1 (0, 0) (fun a m u => a = none ∧ m = n ∧ (∃ g, u c = aI len g ∧ ∀ j, j < len → g j = x) ∧ ∀ q, q ≠ c → u q = w q) := by
    intro k
    induction k with
    | zero =>
      intro i hi w1 g h1 h2 h3
      obtain rfl : i = len := hi
      refine st_iload_n (q := 6) dJ7_fill_53178_5 rfl rfl rfl ?_
      refine st_iload_n (q := 7) dJ7_fill_53178_6 rfl rfl rfl ?_
      refine st_icmp_ge (q := 10) (tgt := 20) dJ7_fill_53178_7 rfl rfl (fun c_7 => ?_) (fun c_7 => False.elim (c_7 (Int32.le_refl _)))
      refine st_return dJ7_fill_53178_20 rfl ?_
      exact ⟨rfl, rfl, ⟨g, h1, h2⟩, h3⟩
    | succ k ih =>
      intro i hi w1 g h1 h2 h3
      refine st_iload_n (q := 6) dJ7_fill_53178_5 rfl rfl rfl ?_
      refine st_iload_n (q := 7) dJ7_fill_53178_6 rfl rfl rfl ?_
      refine st_icmp_ge (q := 10) (tgt := 20) dJ7_fill_53178_7 rfl rfl (fun c_7 => False.elim (absurd c_7 (nI_ge (a := i) (b := len) (by omega) (by omega)))) (fun c_7 => ?_)
      refine st_aload_n (q := 11) dJ7_fill_53178_10 rfl rfl rfl ?_
      refine st_iload_n (q := 12) dJ7_fill_53178_11 rfl rfl rfl ?_
      refine st_iload_n (q := 13) dJ7_fill_53178_12 rfl rfl rfl ?_
      refine st_iastore (q := 14) dJ7_fill_53178_13 rfl hc h1 (ev_ix_nI (j := i) (by omega) (by omega)) ?_
      refine st_iinc (q := 17) (L' := [_, _, _, _]) dJ7_fill_53178_14 rfl rfl (nI_succ _).symm (Nat.le_of_ble_eq_true rfl) rfl ?_
      refine st_goto (q := 5) dJ7_fill_53178_17 rfl ?_
      refine ih (i + 1) (by omega) _ (upd g i x) ev_up_s (fun j hj => ?_) (fun q hq => (ev_up_n hq).trans (h3 q hq))
      by_cases e : j = i
      · subst e; exact pk_us
      · rw [pk_un e]; exact h2 j (by omega)
  refine st_iconst (q := 1) dJ7_fill_53178_0 rfl ic_0 ?_
  refine st_istore_n (q := 2) (L' := [_, _, _, _]) dJ7_fill_53178_1 rfl rfl (Nat.le_of_ble_eq_true rfl) rfl ?_
  refine st_aload_n (q := 3) dJ7_fill_53178_2 rfl rfl rfl ?_
  refine st_alen (q := 4) dJ7_fill_53178_3 rfl hc hw rfl rfl ?_
  refine st_istore_n (q := 5) (L' := [_, _, _, _]) dJ7_fill_53178_4 rfl rfl (Nat.le_of_ble_eq_true rfl) rfl ?_
  exact lp len 0 (by omega) w f hw (fun j hj => absurd hj (Nat.not_lt_zero j)) (fun _ _ => rfl)
theorem g_fill {E : ev_E} {n : Nat} {w : ev_W} {ci : Nat} {lay : gL} {sz : Nat} {T : gT} {b i o len : Nat} {x : Int32} (g : gok lay sz) (h : GR ci lay sz T b n w) (hi : gnth lay i = some (1, o, 0, len)) (hl : len < 1000) : Ct E mJ7_fill_53178 [.ref (b + o), .int x] n w (ev_ch none n w b (b + sz + 1) (GR ci lay sz (rowT T i (fun _ => x)) b n)) := by
  obtain ⟨f, e1, e2⟩ := h.2.2 i o 0 len hi
  have ho := (g.1 i (gnth_lt _ _ _ hi) _ hi rfl).2
  simp only at ho
  refine Ct.mono (c_J7_fill_53178 (by have := h.1; omega) e1 hl) (fun v m u hq => ?_)
  obtain ⟨rfl, rfl, ⟨f', q1, q2⟩, q3⟩ := hq
  have hu : u = ev_up w (b + o) (aI len f') := by
    funext r
    by_cases e : r = b + o
    · subst e; rw [ev_up_s, q1]
    · rw [ev_up_n e, q3 r e]
  rw [hu]
  exact ⟨rfl, rfl, (GR.row g h hi q2).1, (GR.row g h hi q2).2⟩
theorem g_cpy {E : ev_E} {n : Nat} {w : ev_W} {T U : gT} {b c i o len : Nat} (hT : TR T b n w) (hU : TR U c n w) (hdis : b + 9 < c ∨ c + 9 < b) (hi : gnth layX5 i = some (1, o, 0, len)) (hl : len < 100) : Ct E mX5_copyRow [.ref (c + o), .ref (b + o)] n w (fun a m u => a = none ∧ m = n ∧ TR (rowT T i (U i)) b n u ∧ TR U c n u ∧ Fr b (b + 10) w u) := by
  obtain ⟨f, e1, e2⟩ := hT.2.2 i o 0 len hi
  obtain ⟨g, f1, f2⟩ := hU.2.2 i o 0 len hi
  have ho := (gkX5.1 i (gnth_lt _ _ _ hi) _ hi rfl).2
  simp only at ho
  refine Ct.mono (c_X5_copyRow (by have := hU.1; omega) (by have := hT.1; omega) f1 e1 hl) (fun v m u hq => ?_)
  obtain ⟨rfl, rfl, rfl⟩ := hq
  have hr := GR.row (f := va_cpy g f 0 0 len) (g := U i) gkX5 hT hi (fun j hj => by rw [pk_cpy_in (Nat.zero_le _) (by omega), Nat.zero_add, Nat.sub_zero]; exact f2 j hj)
  exact ⟨rfl, rfl, hr.1, GR.fr gkX5 hU (fun k h1 h2 => hr.2 k (by omega)), hr.2⟩
set_option maxRecDepth 100000 in
set_option maxHeartbeats 4000000 in
theorem c_X5_copyFrom {E : ev_E} {n : Nat} {w : ev_W} {T : gT} {b : Nat} (hT : TR T b n w) {U : gT} {c : Nat} (hU : TR U c n w) (hdis : b + 9 < c ∨ c + 9 < b) : Ct E mX5_copyFrom [.ref b, .ref c] n w (ev_ch none n w b (b + 10) (fun u => TR U b n u ∧ TR U c n u)) := by
  refine Ct.of 0 (by decide) (Nat.le_of_ble_eq_true rfl) rfl ?_
  have hF : Fr b (b + 10) w w := Fr.rf
  refine st_aload_n (q := 1) dX5_copyFrom_0 rfl rfl rfl ?_
  refine st_aload_n (q := 2) dX5_copyFrom_1 rfl rfl rfl ?_
  refine g_get (q := 5) dX5_copyFrom_2 rfl fl_X5_49.g hU rfl ?_
  refine g_put (q := 8) dX5_copyFrom_5 rfl fl_X5_49 gkX5 hT rfl rfl rfl (fun w hT hF_ => ?_)
  replace hU := GR.fr gkX5 hU (fun k h1 h2 => hF_ k (by omega))
  replace hF := Fr.tr hF hF_
  refine st_aload_n (q := 9) dX5_copyFrom_8 rfl rfl rfl ?_
  refine st_aload_n (q := 10) dX5_copyFrom_9 rfl rfl rfl ?_
  refine g_get (q := 13) dX5_copyFrom_10 rfl fl_X5_52.g hU rfl ?_
  refine g_put (q := 16) dX5_copyFrom_13 rfl fl_X5_52 gkX5 hT rfl rfl rfl (fun w hT hF_ => ?_)
  replace hU := GR.fr gkX5 hU (fun k h1 h2 => hF_ k (by omega))
  replace hF := Fr.tr hF hF_
  refine st_aload_n (q := 17) dX5_copyFrom_16 rfl rfl rfl ?_
  refine st_aload_n (q := 18) dX5_copyFrom_17 rfl rfl rfl ?_
  refine g_get (q := 21) dX5_copyFrom_18 rfl fl_X5_55.g hU rfl ?_
  refine g_put (q := 24) dX5_copyFrom_21 rfl fl_X5_55 gkX5 hT rfl rfl rfl (fun w hT hF_ => ?_)
  replace hU := GR.fr gkX5 hU (fun k h1 h2 => hF_ k (by omega))
  replace hF := Fr.tr hF hF_
  refine st_aload_n (q := 25) dX5_copyFrom_24 rfl rfl rfl ?_
  refine st_aload_n (q := 26) dX5_copyFrom_25 rfl rfl rfl ?_
  refine g_get (q := 29) dX5_copyFrom_26 rfl fl_X5_58.g hU rfl ?_
  refine g_put (q := 32) dX5_copyFrom_29 rfl fl_X5_58 gkX5 hT rfl rfl rfl (fun w hT hF_ => ?_)
  replace hU := GR.fr gkX5 hU (fun k h1 h2 => hF_ k (by omega))
  replace hF := Fr.tr hF hF_
  refine st_aload_n (q := 33) dX5_copyFrom_32 rfl rfl rfl ?_
  refine st_aload_n (q := 34) dX5_copyFrom_33 rfl rfl rfl ?_
  refine g_get (q := 37) dX5_copyFrom_34 rfl fl_X5_61.g hU rfl ?_
  refine g_put (q := 40) dX5_copyFrom_37 rfl fl_X5_61 gkX5 hT rfl rfl rfl (fun w hT hF_ => ?_)
  replace hU := GR.fr gkX5 hU (fun k h1 h2 => hF_ k (by omega))
  replace hF := Fr.tr hF hF_
  refine st_aload_n (q := 41) dX5_copyFrom_40 rfl rfl rfl ?_
  refine st_aload_n (q := 42) dX5_copyFrom_41 rfl rfl rfl ?_
  refine g_get (q := 45) dX5_copyFrom_42 rfl fl_X5_45.g hU rfl ?_
  refine g_put (q := 48) dX5_copyFrom_45 rfl fl_X5_45 gkX5 hT rfl rfl rfl (fun w hT hF_ => ?_)
  replace hU := GR.fr gkX5 hU (fun k h1 h2 => hF_ k (by omega))
  replace hF := Fr.tr hF hF_
  refine st_aload_n (q := 49) dX5_copyFrom_48 rfl rfl rfl ?_
  refine st_aload_n (q := 50) dX5_copyFrom_49 rfl rfl rfl ?_
  refine g_get (q := 53) dX5_copyFrom_50 rfl fl_X5_64.g hU rfl ?_
  refine g_put (q := 56) dX5_copyFrom_53 rfl fl_X5_64 gkX5 hT rfl rfl rfl (fun w hT hF_ => ?_)
  replace hU := GR.fr gkX5 hU (fun k h1 h2 => hF_ k (by omega))
  replace hF := Fr.tr hF hF_
  refine st_aload_n (q := 57) dX5_copyFrom_56 rfl rfl rfl ?_
  refine st_aload_n (q := 58) dX5_copyFrom_57 rfl rfl rfl ?_
  refine g_get (q := 61) dX5_copyFrom_58 rfl fl_X5_67.g hU rfl ?_
  refine g_put (q := 64) dX5_copyFrom_61 rfl fl_X5_67 gkX5 hT rfl rfl rfl (fun w hT hF_ => ?_)
  replace hU := GR.fr gkX5 hU (fun k h1 h2 => hF_ k (by omega))
  replace hF := Fr.tr hF hF_
  refine st_aload_n (q := 65) dX5_copyFrom_64 rfl rfl rfl ?_
  refine st_aload_n (q := 66) dX5_copyFrom_65 rfl rfl rfl ?_
  refine g_get (q := 69) dX5_copyFrom_66 rfl fl_X5_70.g hU rfl ?_
  refine g_put (q := 72) dX5_copyFrom_69 rfl fl_X5_70 gkX5 hT rfl rfl rfl (fun w hT hF_ => ?_)
  replace hU := GR.fr gkX5 hU (fun k h1 h2 => hF_ k (by omega))
  replace hF := Fr.tr hF hF_
  refine st_aload_n (q := 73) dX5_copyFrom_72 rfl rfl rfl ?_
  refine g_getA (q := 76) dX5_copyFrom_73 rfl fl_X5_9.g hU rfl ?_
  refine st_aload_n (q := 77) dX5_copyFrom_76 rfl rfl rfl ?_
  refine g_getA (q := 80) dX5_copyFrom_77 rfl fl_X5_9.g hT rfl ?_
  refine sm_S2 (q := 83) (M' := mX5_copyRow) dX5_copyFrom_80 rfl ok_X5_copyRow mk_X5_copyRow ml_X5_73 ⟨Nat.le_of_ble_eq_true rfl, Nat.le_of_ble_eq_true rfl⟩ rfl (Nat.le_of_ble_eq_true rfl) ⟨rfl, rfl⟩ (g_cpy (i := 1) hT hU hdis rfl (by decide)) ?_
  intro _ _ w h9 _
  obtain ⟨rfl, rfl, hT, hU, hF_⟩ := h9
  replace hF := Fr.tr hF hF_
  refine st_aload_n (q := 84) dX5_copyFrom_83 rfl rfl rfl ?_
  refine g_getA (q := 87) dX5_copyFrom_84 rfl fl_X5_15.g hU rfl ?_
  refine st_aload_n (q := 88) dX5_copyFrom_87 rfl rfl rfl ?_
  refine g_getA (q := 91) dX5_copyFrom_88 rfl fl_X5_15.g hT rfl ?_
  refine sm_S2 (q := 94) (M' := mX5_copyRow) dX5_copyFrom_91 rfl ok_X5_copyRow mk_X5_copyRow ml_X5_73 ⟨Nat.le_of_ble_eq_true rfl, Nat.le_of_ble_eq_true rfl⟩ rfl (Nat.le_of_ble_eq_true rfl) ⟨rfl, rfl⟩ (g_cpy (i := 2) hT hU hdis rfl (by decide)) ?_
  intro _ _ w h9 _
  obtain ⟨rfl, rfl, hT, hU, hF_⟩ := h9
  replace hF := Fr.tr hF hF_
  refine st_aload_n (q := 95) dX5_copyFrom_94 rfl rfl rfl ?_
  refine g_getA (q := 98) dX5_copyFrom_95 rfl fl_X5_18.g hU rfl ?_
  refine st_aload_n (q := 99) dX5_copyFrom_98 rfl rfl rfl ?_
  refine g_getA (q := 102) dX5_copyFrom_99 rfl fl_X5_18.g hT rfl ?_
  refine sm_S2 (q := 105) (M' := mX5_copyRow) dX5_copyFrom_102 rfl ok_X5_copyRow mk_X5_copyRow ml_X5_73 ⟨Nat.le_of_ble_eq_true rfl, Nat.le_of_ble_eq_true rfl⟩ rfl (Nat.le_of_ble_eq_true rfl) ⟨rfl, rfl⟩ (g_cpy (i := 3) hT hU hdis rfl (by decide)) ?_
  intro _ _ w h9 _
  obtain ⟨rfl, rfl, hT, hU, hF_⟩ := h9
  replace hF := Fr.tr hF hF_
  refine st_aload_n (q := 106) dX5_copyFrom_105 rfl rfl rfl ?_
  refine g_getA (q := 109) dX5_copyFrom_106 rfl fl_X5_21.g hU rfl ?_
  refine st_aload_n (q := 110) dX5_copyFrom_109 rfl rfl rfl ?_
  refine g_getA (q := 113) dX5_copyFrom_110 rfl fl_X5_21.g hT rfl ?_
  refine sm_S2 (q := 116) (M' := mX5_copyRow) dX5_copyFrom_113 rfl ok_X5_copyRow mk_X5_copyRow ml_X5_73 ⟨Nat.le_of_ble_eq_true rfl, Nat.le_of_ble_eq_true rfl⟩ rfl (Nat.le_of_ble_eq_true rfl) ⟨rfl, rfl⟩ (g_cpy (i := 4) hT hU hdis rfl (by decide)) ?_
  intro _ _ w h9 _
  obtain ⟨rfl, rfl, hT, hU, hF_⟩ := h9
  replace hF := Fr.tr hF hF_
  refine st_aload_n (q := 117) dX5_copyFrom_116 rfl rfl rfl ?_
  refine g_getA (q := 120) dX5_copyFrom_117 rfl fl_X5_24.g hU rfl ?_
  refine st_aload_n (q := 121) dX5_copyFrom_120 rfl rfl rfl ?_
  refine g_getA (q := 124) dX5_copyFrom_121 rfl fl_X5_24.g hT rfl ?_
  refine sm_S2 (q := 127) (M' := mX5_copyRow) dX5_copyFrom_124 rfl ok_X5_copyRow mk_X5_copyRow ml_X5_73 ⟨Nat.le_of_ble_eq_true rfl, Nat.le_of_ble_eq_true rfl⟩ rfl (Nat.le_of_ble_eq_true rfl) ⟨rfl, rfl⟩ (g_cpy (i := 7) hT hU hdis rfl (by decide)) ?_
  intro _ _ w h9 _
  obtain ⟨rfl, rfl, hT, hU, hF_⟩ := h9
  replace hF := Fr.tr hF hF_
  refine st_aload_n (q := 128) dX5_copyFrom_127 rfl rfl rfl ?_
  refine g_getA (q := 131) dX5_copyFrom_128 rfl fl_X5_27.g hU rfl ?_
  refine st_aload_n (q := 132) dX5_copyFrom_131 rfl rfl rfl ?_
  refine g_getA (q := 135) dX5_copyFrom_132 rfl fl_X5_27.g hT rfl ?_
  refine sm_S2 (q := 138) (M' := mX5_copyRow) dX5_copyFrom_135 rfl ok_X5_copyRow mk_X5_copyRow ml_X5_73 ⟨Nat.le_of_ble_eq_true rfl, Nat.le_of_ble_eq_true rfl⟩ rfl (Nat.le_of_ble_eq_true rfl) ⟨rfl, rfl⟩ (g_cpy (i := 8) hT hU hdis rfl (by decide)) ?_
  intro _ _ w h9 _
  obtain ⟨rfl, rfl, hT, hU, hF_⟩ := h9
  replace hF := Fr.tr hF hF_
  refine st_aload_n (q := 139) dX5_copyFrom_138 rfl rfl rfl ?_
  refine g_getA (q := 142) dX5_copyFrom_139 rfl fl_X5_30.g hU rfl ?_
  refine st_aload_n (q := 143) dX5_copyFrom_142 rfl rfl rfl ?_
  refine g_getA (q := 146) dX5_copyFrom_143 rfl fl_X5_30.g hT rfl ?_
  refine sm_S2 (q := 149) (M' := mX5_copyRow) dX5_copyFrom_146 rfl ok_X5_copyRow mk_X5_copyRow ml_X5_73 ⟨Nat.le_of_ble_eq_true rfl, Nat.le_of_ble_eq_true rfl⟩ rfl (Nat.le_of_ble_eq_true rfl) ⟨rfl, rfl⟩ (g_cpy (i := 9) hT hU hdis rfl (by decide)) ?_
  intro _ _ w h9 _
  obtain ⟨rfl, rfl, hT, hU, hF_⟩ := h9
  replace hF := Fr.tr hF hF_
  refine st_aload_n (q := 150) dX5_copyFrom_149 rfl rfl rfl ?_
  refine g_getA (q := 153) dX5_copyFrom_150 rfl fl_X5_33.g hU rfl ?_
  refine st_aload_n (q := 154) dX5_copyFrom_153 rfl rfl rfl ?_
  refine g_getA (q := 157) dX5_copyFrom_154 rfl fl_X5_33.g hT rfl ?_
  refine sm_S2 (q := 160) (M' := mX5_copyRow) dX5_copyFrom_157 rfl ok_X5_copyRow mk_X5_copyRow ml_X5_73 ⟨Nat.le_of_ble_eq_true rfl, Nat.le_of_ble_eq_true rfl⟩ rfl (Nat.le_of_ble_eq_true rfl) ⟨rfl, rfl⟩ (g_cpy (i := 10) hT hU hdis rfl (by decide)) ?_
  intro _ _ w h9 _
  obtain ⟨rfl, rfl, hT, hU, hF_⟩ := h9
  replace hF := Fr.tr hF hF_
  refine st_aload_n (q := 161) dX5_copyFrom_160 rfl rfl rfl ?_
  refine g_getA (q := 164) dX5_copyFrom_161 rfl fl_X5_36.g hU rfl ?_
  refine st_aload_n (q := 165) dX5_copyFrom_164 rfl rfl rfl ?_
  refine g_getA (q := 168) dX5_copyFrom_165 rfl fl_X5_36.g hT rfl ?_
  refine sm_S2 (q := 171) (M' := mX5_copyRow) dX5_copyFrom_168 rfl ok_X5_copyRow mk_X5_copyRow ml_X5_73 ⟨Nat.le_of_ble_eq_true rfl, Nat.le_of_ble_eq_true rfl⟩ rfl (Nat.le_of_ble_eq_true rfl) ⟨rfl, rfl⟩ (g_cpy (i := 13) hT hU hdis rfl (by decide)) ?_
  intro _ _ w h9 _
  obtain ⟨rfl, rfl, hT, hU, hF_⟩ := h9
  replace hF := Fr.tr hF hF_
  refine st_return dX5_copyFrom_171 rfl ?_
  refine ⟨rfl, rfl, ⟨?_, hU⟩, hF⟩
  refine GR.congr gzX5 hT (fun i hi => ?_) (fun i o ty len hi j hj => ?_)
  · match i, gnth_lt _ _ _ hi, hi with
    | 0, _, hi => rfl
    | 1, _, hi => cases hi
    | 2, _, hi => cases hi
    | 3, _, hi => cases hi
    | 4, _, hi => cases hi
    | 5, _, hi => rfl
    | 6, _, hi => rfl
    | 7, _, hi => cases hi
    | 8, _, hi => cases hi
    | 9, _, hi => cases hi
    | 10, _, hi => cases hi
    | 11, _, hi => rfl
    | 12, _, hi => rfl
    | 13, _, hi => cases hi
    | 14, _, hi => rfl
    | 15, _, hi => rfl
    | 16, _, hi => rfl
    | 17, _, hi => rfl
  · match i, gnth_lt _ _ _ hi, hi with
    | 0, _, hi => cases hi
    | 1, _, hi => rfl
    | 2, _, hi => rfl
    | 3, _, hi => rfl
    | 4, _, hi => rfl
    | 5, _, hi => cases hi
    | 6, _, hi => cases hi
    | 7, _, hi => rfl
    | 8, _, hi => rfl
    | 9, _, hi => rfl
    | 10, _, hi => rfl
    | 11, _, hi => cases hi
    | 12, _, hi => cases hi
    | 13, _, hi => rfl
    | 14, _, hi => cases hi
    | 15, _, hi => cases hi
    | 16, _, hi => cases hi
    | 17, _, hi => cases hi
def clT (T : gT) : gT := tup (tup (tup (tup (rowT (tup (tup (tup (tup (tup T 0 0 0) 6 0 0) 5 0 0) 11 0 0) 12 0 0) 13 (fun _ => 4)) 14 0 4) 15 0 0) 16 0 0) 17 0 0
def ahT (T : gT) (nh : Nat) (a b c : Int32) : gT := tup (tup (tup (tup (tup T 1 nh a) 2 nh b) 3 nh c) 4 nh 50) 0 0 (T 0 0 + 1)
def atT (T : gT) (nt : Nat) (k a b c : Int32) : gT := tup (tup (tup (tup (tup T 7 nt k) 8 nt a) 9 nt b) 10 nt c) 6 0 (T 6 0 + 1)
def hhT (T : gT) (nt : Nat) : Bool := (List.range nt).all (fun i => inI (T 8 i) 0 (T 0 0 - 1))
def hrI (x : Int32) : Nat := if x = 0 then 1 else if x = 1 then 2 else if x = 2 then 3 else 4
def trI (x : Int32) : Nat := if x = 0 then 5 else if x = 1 then 7 else 8
set_option maxRecDepth 100000 in
set_option maxHeartbeats 4000000 in
theorem c_X5_clear {E : ev_E} {n : Nat} {w : ev_W} {T : gT} {b : Nat} (hT : TR T b n w) : Ct E mX5_clear [.ref b] n w (ev_ch none n w b (b + 10) (TR (clT T) b n)) := by
  refine Ct.of 0 (by decide) (Nat.le_of_ble_eq_true rfl) rfl ?_
  have hF : Fr b (b + 10) w w := Fr.rf
  refine st_aload_n (q := 1) dX5_clear_0 rfl rfl rfl ?_
  refine st_iconst (q := 2) dX5_clear_1 rfl ic_0 ?_
  refine g_put (q := 5) dX5_clear_2 rfl fl_X5_49 gkX5 hT rfl rfl rfl (fun w hT hF_ => ?_)
  replace hF := Fr.tr hF hF_
  refine st_aload_n (q := 6) dX5_clear_5 rfl rfl rfl ?_
  refine st_iconst (q := 7) dX5_clear_6 rfl ic_0 ?_
  refine g_put (q := 10) dX5_clear_7 rfl fl_X5_52 gkX5 hT rfl rfl rfl (fun w hT hF_ => ?_)
  replace hF := Fr.tr hF hF_
  refine st_aload_n (q := 11) dX5_clear_10 rfl rfl rfl ?_
  refine st_iconst (q := 12) dX5_clear_11 rfl ic_0 ?_
  refine g_put (q := 15) dX5_clear_12 rfl fl_X5_55 gkX5 hT rfl rfl rfl (fun w hT hF_ => ?_)
  replace hF := Fr.tr hF hF_
  refine st_aload_n (q := 16) dX5_clear_15 rfl rfl rfl ?_
  refine st_iconst (q := 17) dX5_clear_16 rfl ic_0 ?_
  refine g_put (q := 20) dX5_clear_17 rfl fl_X5_58 gkX5 hT rfl rfl rfl (fun w hT hF_ => ?_)
  replace hF := Fr.tr hF hF_
  refine st_aload_n (q := 21) dX5_clear_20 rfl rfl rfl ?_
  refine st_iconst (q := 22) dX5_clear_21 rfl ic_0 ?_
  refine g_put (q := 25) dX5_clear_22 rfl fl_X5_61 gkX5 hT rfl rfl rfl (fun w hT hF_ => ?_)
  replace hF := Fr.tr hF hF_
  refine st_aload_n (q := 26) dX5_clear_25 rfl rfl rfl ?_
  refine g_getA (q := 29) dX5_clear_26 rfl fl_X5_36.g hT rfl ?_
  refine st_iconst (q := 30) dX5_clear_29 rfl ic_4 ?_
  refine sm_S2 (q := 33) (M' := mJ7_fill_53178) dX5_clear_30 rfl ok_J7_fill_53178 mk_J7_fill_53178 ml_X5_39 ⟨Nat.le_of_ble_eq_true rfl, Nat.le_of_ble_eq_true rfl⟩ rfl (Nat.le_of_ble_eq_true rfl) ⟨rfl, rfl⟩ (g_fill (i := 13) gkX5 hT rfl (by decide)) ?_
  intro _ _ w h9 _
  obtain ⟨rfl, rfl, hT, hF_⟩ := h9
  replace hF := Fr.tr hF hF_
  refine st_aload_n (q := 34) dX5_clear_33 rfl rfl rfl ?_
  refine st_iconst (q := 35) dX5_clear_34 rfl ic_4 ?_
  refine g_put (q := 38) dX5_clear_35 rfl fl_X5_45 gkX5 hT rfl rfl rfl (fun w hT hF_ => ?_)
  replace hF := Fr.tr hF hF_
  refine st_aload_n (q := 39) dX5_clear_38 rfl rfl rfl ?_
  refine st_iconst (q := 40) dX5_clear_39 rfl ic_0 ?_
  refine g_put (q := 43) dX5_clear_40 rfl fl_X5_64 gkX5 hT rfl rfl rfl (fun w hT hF_ => ?_)
  replace hF := Fr.tr hF hF_
  refine st_aload_n (q := 44) dX5_clear_43 rfl rfl rfl ?_
  refine st_iconst (q := 45) dX5_clear_44 rfl ic_0 ?_
  refine g_put (q := 48) dX5_clear_45 rfl fl_X5_67 gkX5 hT rfl rfl rfl (fun w hT hF_ => ?_)
  replace hF := Fr.tr hF hF_
  refine st_aload_n (q := 49) dX5_clear_48 rfl rfl rfl ?_
  refine st_iconst (q := 50) dX5_clear_49 rfl ic_0 ?_
  refine g_put (q := 53) dX5_clear_50 rfl fl_X5_70 gkX5 hT rfl rfl rfl (fun w hT hF_ => ?_)
  replace hF := Fr.tr hF hF_
  refine st_return dX5_clear_53 rfl ?_
  exact ⟨rfl, rfl, hT, hF⟩
set_option maxRecDepth 100000 in
set_option maxHeartbeats 4000000 in
theorem c_X5_addHouse {E : ev_E} {n : Nat} {w : ev_W} {T : gT} {b : Nat} (hT : TR T b n w) {nh : Nat} (e0 : T 0 0 = nI nh) (hnh : nh < 4) {x y z : Int32} : Ct E mX5_addHouse [.ref b, .int x, .int y, .int z] n w (ev_ch none n w b (b + 10) (TR (ahT T nh x y z) b n)) := by
  refine Ct.of 0 (by decide) (Nat.le_of_ble_eq_true rfl) rfl ?_
  have hF : Fr b (b + 10) w w := Fr.rf
  refine st_aload_n (q := 1) dX5_addHouse_0 rfl rfl rfl ?_
  refine g_get (q := 4) dX5_addHouse_1 rfl fl_X5_49.g hT rfl ?_
  refine st_iconst (q := 5) dX5_addHouse_4 rfl ic_4 ?_
  refine st_icmp_ge (q := 8) (tgt := 59) dX5_addHouse_5 rfl rfl (fun c_5 => False.elim (absurd (by rw [← e0]; exact c_5) (nI_ge (a := nh) (b := 4) (by omega) (by omega)))) (fun c_5 => ?_)
  refine st_aload_n (q := 9) dX5_addHouse_8 rfl rfl rfl ?_
  refine g_getA (q := 12) dX5_addHouse_9 rfl fl_X5_9.g hT rfl ?_
  refine st_aload_n (q := 13) dX5_addHouse_12 rfl rfl rfl ?_
  refine g_get (q := 16) dX5_addHouse_13 rfl fl_X5_49.g hT rfl ?_
  refine st_iload_n (q := 17) dX5_addHouse_16 rfl rfl rfl ?_
  refine g_iast (q := 18) dX5_addHouse_17 rfl gkX5 hT (i := 1) rfl (by show ev_ix (T 0 0) 4 nh; rw [e0]; exact ev_ix_nI (by omega) (by decide)) (fun w hT hF_ => ?_)
  replace hF := Fr.tr hF hF_
  refine st_aload_n (q := 19) dX5_addHouse_18 rfl rfl rfl ?_
  refine g_getA (q := 22) dX5_addHouse_19 rfl fl_X5_15.g hT rfl ?_
  refine st_aload_n (q := 23) dX5_addHouse_22 rfl rfl rfl ?_
  refine g_get (q := 26) dX5_addHouse_23 rfl fl_X5_49.g hT rfl ?_
  refine st_iload_n (q := 27) dX5_addHouse_26 rfl rfl rfl ?_
  refine g_iast (q := 28) dX5_addHouse_27 rfl gkX5 hT (i := 2) rfl (by show ev_ix (T 0 0) 4 nh; rw [e0]; exact ev_ix_nI (by omega) (by decide)) (fun w hT hF_ => ?_)
  replace hF := Fr.tr hF hF_
  refine st_aload_n (q := 29) dX5_addHouse_28 rfl rfl rfl ?_
  refine g_getA (q := 32) dX5_addHouse_29 rfl fl_X5_18.g hT rfl ?_
  refine st_aload_n (q := 33) dX5_addHouse_32 rfl rfl rfl ?_
  refine g_get (q := 36) dX5_addHouse_33 rfl fl_X5_49.g hT rfl ?_
  refine st_iload_n (q := 37) dX5_addHouse_36 rfl rfl rfl ?_
  refine g_iast (q := 38) dX5_addHouse_37 rfl gkX5 hT (i := 3) rfl (by show ev_ix (T 0 0) 4 nh; rw [e0]; exact ev_ix_nI (by omega) (by decide)) (fun w hT hF_ => ?_)
  replace hF := Fr.tr hF hF_
  refine st_aload_n (q := 39) dX5_addHouse_38 rfl rfl rfl ?_
  refine g_getA (q := 42) dX5_addHouse_39 rfl fl_X5_21.g hT rfl ?_
  refine st_aload_n (q := 43) dX5_addHouse_42 rfl rfl rfl ?_
  refine g_get (q := 46) dX5_addHouse_43 rfl fl_X5_49.g hT rfl ?_
  refine st_bipush (q := 48) dX5_addHouse_46 rfl bp_50 ?_
  refine g_iast (q := 49) dX5_addHouse_48 rfl gkX5 hT (i := 4) rfl (by show ev_ix (T 0 0) 4 nh; rw [e0]; exact ev_ix_nI (by omega) (by decide)) (fun w hT hF_ => ?_)
  replace hF := Fr.tr hF hF_
  refine st_aload_n (q := 50) dX5_addHouse_49 rfl rfl rfl ?_
  refine st_dup (q := 51) dX5_addHouse_50 rfl rfl ?_
  refine g_get (q := 54) dX5_addHouse_51 rfl fl_X5_49.g hT rfl ?_
  refine st_iconst (q := 55) dX5_addHouse_54 rfl ic_1 ?_
  refine st_iadd (q := 56) dX5_addHouse_55 rfl ?_
  refine g_put (q := 59) dX5_addHouse_56 rfl fl_X5_49 gkX5 hT rfl rfl rfl (fun w hT hF_ => ?_)
  replace hF := Fr.tr hF hF_
  refine st_return dX5_addHouse_59 rfl ?_
  exact ⟨rfl, rfl, hT, hF⟩
set_option maxRecDepth 100000 in
set_option maxHeartbeats 4000000 in
theorem c_X5_addThing {E : ev_E} {n : Nat} {w : ev_W} {T : gT} {b : Nat} (hT : TR T b n w) {nt : Nat} (e6 : T 6 0 = nI nt) (hnt : nt < 8) {k x y z : Int32} : Ct E mX5_addThing [.ref b, .int k, .int x, .int y, .int z] n w (ev_ch none n w b (b + 10) (TR (atT T nt k x y z) b n)) := by
  refine Ct.of 0 (by decide) (Nat.le_of_ble_eq_true rfl) rfl ?_
  have hF : Fr b (b + 10) w w := Fr.rf
  refine st_aload_n (q := 1) dX5_addThing_0 rfl rfl rfl ?_
  refine g_get (q := 4) dX5_addThing_1 rfl fl_X5_52.g hT rfl ?_
  refine st_bipush (q := 6) dX5_addThing_4 rfl bp_8 ?_
  refine st_icmp_ge (q := 9) (tgt := 60) dX5_addThing_6 rfl rfl (fun c_6 => False.elim (absurd (by rw [← e6]; exact c_6) (nI_ge (a := nt) (b := 8) (by omega) (by omega)))) (fun c_6 => ?_)
  refine st_aload_n (q := 10) dX5_addThing_9 rfl rfl rfl ?_
  refine g_getA (q := 13) dX5_addThing_10 rfl fl_X5_24.g hT rfl ?_
  refine st_aload_n (q := 14) dX5_addThing_13 rfl rfl rfl ?_
  refine g_get (q := 17) dX5_addThing_14 rfl fl_X5_52.g hT rfl ?_
  refine st_iload_n (q := 18) dX5_addThing_17 rfl rfl rfl ?_
  refine g_iast (q := 19) dX5_addThing_18 rfl gkX5 hT (i := 7) rfl (by show ev_ix (T 6 0) 8 nt; rw [e6]; exact ev_ix_nI (by omega) (by decide)) (fun w hT hF_ => ?_)
  replace hF := Fr.tr hF hF_
  refine st_aload_n (q := 20) dX5_addThing_19 rfl rfl rfl ?_
  refine g_getA (q := 23) dX5_addThing_20 rfl fl_X5_27.g hT rfl ?_
  refine st_aload_n (q := 24) dX5_addThing_23 rfl rfl rfl ?_
  refine g_get (q := 27) dX5_addThing_24 rfl fl_X5_52.g hT rfl ?_
  refine st_iload_n (q := 28) dX5_addThing_27 rfl rfl rfl ?_
  refine g_iast (q := 29) dX5_addThing_28 rfl gkX5 hT (i := 8) rfl (by show ev_ix (T 6 0) 8 nt; rw [e6]; exact ev_ix_nI (by omega) (by decide)) (fun w hT hF_ => ?_)
  replace hF := Fr.tr hF hF_
  refine st_aload_n (q := 30) dX5_addThing_29 rfl rfl rfl ?_
  refine g_getA (q := 33) dX5_addThing_30 rfl fl_X5_30.g hT rfl ?_
  refine st_aload_n (q := 34) dX5_addThing_33 rfl rfl rfl ?_
  refine g_get (q := 37) dX5_addThing_34 rfl fl_X5_52.g hT rfl ?_
  refine st_iload_n (q := 38) dX5_addThing_37 rfl rfl rfl ?_
  refine g_iast (q := 39) dX5_addThing_38 rfl gkX5 hT (i := 9) rfl (by show ev_ix (T 6 0) 8 nt; rw [e6]; exact ev_ix_nI (by omega) (by decide)) (fun w hT hF_ => ?_)
  replace hF := Fr.tr hF hF_
  refine st_aload_n (q := 40) dX5_addThing_39 rfl rfl rfl ?_
  refine g_getA (q := 43) dX5_addThing_40 rfl fl_X5_33.g hT rfl ?_
  refine st_aload_n (q := 44) dX5_addThing_43 rfl rfl rfl ?_
  refine g_get (q := 47) dX5_addThing_44 rfl fl_X5_52.g hT rfl ?_
  refine st_iload (q := 49) dX5_addThing_47 rfl rfl ?_
  refine g_iast (q := 50) dX5_addThing_49 rfl gkX5 hT (i := 10) rfl (by show ev_ix (T 6 0) 8 nt; rw [e6]; exact ev_ix_nI (by omega) (by decide)) (fun w hT hF_ => ?_)
  replace hF := Fr.tr hF hF_
  refine st_aload_n (q := 51) dX5_addThing_50 rfl rfl rfl ?_
  refine st_dup (q := 52) dX5_addThing_51 rfl rfl ?_
  refine g_get (q := 55) dX5_addThing_52 rfl fl_X5_52.g hT rfl ?_
  refine st_iconst (q := 56) dX5_addThing_55 rfl ic_1 ?_
  refine st_iadd (q := 57) dX5_addThing_56 rfl ?_
  refine g_put (q := 60) dX5_addThing_57 rfl fl_X5_52 gkX5 hT rfl rfl rfl (fun w hT hF_ => ?_)
  replace hF := Fr.tr hF hF_
  refine st_return dX5_addThing_60 rfl ?_
  exact ⟨rfl, rfl, hT, hF⟩
set_option maxRecDepth 100000 in
set_option maxHeartbeats 4000000 in
theorem c_X5_hasHomes {E : ev_E} {n : Nat} {w : ev_W} {T : gT} {b : Nat} (hT : TR T b n w) {nt : Nat} (e6 : T 6 0 = nI nt) (hnt : nt ≤ 8) : Ct E mX5_hasHomes [.ref b] n w (ev_is (some (.int (zI (hhT T nt)))) n w) := by
  refine Ct.of 1 (by decide) (Nat.le_of_ble_eq_true rfl) rfl ?_
  have lp : ∀ (k i : Nat), i + k = nt → (∀ j, j < i → inI (T 8 j) 0 (T 0 0 - 1) = true) → Ev E mX5_hasHomes 2 [some (.ref b), some (.int (nI i))] [] n w (0, 0) (ev_is (some (.int (zI (hhT T nt)))) n w) := by
    intro k
    induction k with
    | zero =>
      intro i hi hall
      obtain rfl : i = nt := hi
      refine st_iload_n (q := 3) dX5_hasHomes_2 rfl rfl rfl ?_
      refine st_aload_n (q := 4) dX5_hasHomes_3 rfl rfl rfl ?_
      refine g_get (q := 7) dX5_hasHomes_4 rfl fl_X5_52.g hT rfl ?_
      refine st_icmp_ge (q := 10) (tgt := 31) dX5_hasHomes_7 rfl rfl (fun c_7 => ?_) (fun c_7 => False.elim (c_7 (by rw [e6]; exact nI_le (by omega) (by omega))))
      refine st_iconst (q := 32) dX5_hasHomes_31 rfl ic_1 ?_
      refine st_nreturn dX5_hasHomes_32 rfl (by rfl) ?_
      have e9 : hhT T i = true := List.all_eq_true.mpr (fun j hj => hall j (List.mem_range.mp hj))
      exact ⟨by rw [e9]; rfl, rfl, rfl⟩
    | succ k ih =>
      intro i hi hall
      refine st_iload_n (q := 3) dX5_hasHomes_2 rfl rfl rfl ?_
      refine st_aload_n (q := 4) dX5_hasHomes_3 rfl rfl rfl ?_
      refine g_get (q := 7) dX5_hasHomes_4 rfl fl_X5_52.g hT rfl ?_
      refine st_icmp_ge (q := 10) (tgt := 31) dX5_hasHomes_7 rfl rfl (fun c_7 => False.elim (absurd (by rw [← e6]; exact c_7) (nI_ge (a := i) (b := nt) (by omega) (by omega)))) (fun c_7 => ?_)
      refine st_aload_n (q := 11) dX5_hasHomes_10 rfl rfl rfl ?_
      refine st_aload_n (q := 12) dX5_hasHomes_11 rfl rfl rfl ?_
      refine g_getA (q := 15) dX5_hasHomes_12 rfl fl_X5_27.g hT rfl ?_
      refine st_iload_n (q := 16) dX5_hasHomes_15 rfl rfl rfl ?_
      refine g_iald (q := 17) dX5_hasHomes_16 rfl gkX5 hT (i := 8) rfl (by first | assumption | exact ev_ix_nI (by omega) (by decide)) ?_
      refine sp_V1 (q := 20) (M' := mX5_isHouse) dX5_hasHomes_17 rfl ok_X5_isHouse mk_X5_isHouse ml_X5_93 ⟨Nat.le_of_ble_eq_true rfl, Nat.le_of_ble_eq_true rfl⟩ rfl (Nat.le_of_ble_eq_true rfl) (g_rv hT rfl) ⟨rfl, rfl⟩ (c_X5_isHouse hT) ?_
      refine st_if_ne (q := 23) (tgt := 25) dX5_hasHomes_20 rfl rfl (fun c_20 => ?_) (fun c_20 => ?_)
      · refine st_iinc (q := 28) (L' := [_, _]) dX5_hasHomes_25 rfl rfl (nI_succ _).symm (Nat.le_of_ble_eq_true rfl) rfl ?_
        refine st_goto (q := 2) dX5_hasHomes_28 rfl ?_
        refine ih (i + 1) (by omega) (fun j hj => ?_)
        by_cases e : j = i
        · subst e; exact zI_1.mp c_20
        · exact hall j (by omega)
      · refine st_iconst (q := 24) dX5_hasHomes_23 rfl ic_0 ?_
        refine st_nreturn dX5_hasHomes_24 rfl (by rfl) ?_
        have e9 : hhT T nt = false := List.all_eq_false.mpr ⟨i, List.mem_range.mpr (by omega), by rw [zI_0.mp c_20]; decide⟩
        exact ⟨by rw [e9]; rfl, rfl, rfl⟩
  refine st_iconst (q := 1) dX5_hasHomes_0 rfl ic_0 ?_
  refine st_istore_n (q := 2) (L' := [_, _]) dX5_hasHomes_1 rfl rfl (Nat.le_of_ble_eq_true rfl) rfl ?_
  exact lp nt 0 (by omega) (fun j hj => absurd hj (Nat.not_lt_zero j))
set_option maxRecDepth 100000 in
set_option maxHeartbeats 4000000 in
theorem c_X5_houseRow {E : ev_E} {n : Nat} {w : ev_W} {T : gT} {b : Nat} (hT : TR T b n w) {x : Int32} : Ct E mX5_houseRow [.ref b, .int x] n w (ev_is (some (.ref (b + hrI x))) n w) := by
  refine Ct.of 0 (by decide) (Nat.le_of_ble_eq_true rfl) rfl ?_
  refine st_iload_n (q := 1) dX5_houseRow_0 rfl rfl rfl ?_
  refine st_tabK 0 (v := 0) (tgt := 28) dX5_houseRow_1 rfl rfl (by decide) (by decide) (fun c_1_0 => ?_) (fun c_1_0 t_1_0 => ?_)
  · refine st_aload_n (q := 29) dX5_houseRow_28 rfl rfl rfl ?_
    refine g_getA (q := 32) dX5_houseRow_29 rfl fl_X5_9.g hT rfl ?_
    refine st_areturn dX5_houseRow_32 rfl (by first | exact Or.inl ⟨_, rfl⟩ | exact Or.inr ⟨_, rfl⟩) ?_
    exact ⟨by simp_all [hrI], rfl, rfl⟩
  refine st_tabK 1 (v := 1) (tgt := 33) dX5_houseRow_1 rfl rfl (by decide) (by decide) (fun c_1_1 => ?_) (fun c_1_1 t_1_1 => ?_)
  · refine st_aload_n (q := 34) dX5_houseRow_33 rfl rfl rfl ?_
    refine g_getA (q := 37) dX5_houseRow_34 rfl fl_X5_15.g hT rfl ?_
    refine st_areturn dX5_houseRow_37 rfl (by first | exact Or.inl ⟨_, rfl⟩ | exact Or.inr ⟨_, rfl⟩) ?_
    exact ⟨by simp_all [hrI], rfl, rfl⟩
  refine st_tabK 2 (v := 2) (tgt := 38) dX5_houseRow_1 rfl rfl (by decide) (by decide) (fun c_1_2 => ?_) (fun c_1_2 t_1_2 => ?_)
  · refine st_aload_n (q := 39) dX5_houseRow_38 rfl rfl rfl ?_
    refine g_getA (q := 42) dX5_houseRow_39 rfl fl_X5_18.g hT rfl ?_
    refine st_areturn dX5_houseRow_42 rfl (by first | exact Or.inl ⟨_, rfl⟩ | exact Or.inr ⟨_, rfl⟩) ?_
    exact ⟨by simp_all [hrI], rfl, rfl⟩
  refine st_tableOut (tgt := 43) dX5_houseRow_1 (by omega) rfl ?_
  refine st_aload_n (q := 44) dX5_houseRow_43 rfl rfl rfl ?_
  refine g_getA (q := 47) dX5_houseRow_44 rfl fl_X5_21.g hT rfl ?_
  refine st_areturn dX5_houseRow_47 rfl (by first | exact Or.inl ⟨_, rfl⟩ | exact Or.inr ⟨_, rfl⟩) ?_
  exact ⟨by simp_all [hrI], rfl, rfl⟩
set_option maxRecDepth 100000 in
set_option maxHeartbeats 4000000 in
theorem c_X5_thingRow {E : ev_E} {n : Nat} {w : ev_W} {T : gT} {b : Nat} (hT : TR T b n w) {x : Int32} : Ct E mX5_thingRow [.ref b, .int x] n w (ev_is (some (.ref (b + trI x))) n w) := by
  refine Ct.of 0 (by decide) (Nat.le_of_ble_eq_true rfl) rfl ?_
  refine st_iload_n (q := 1) dX5_thingRow_0 rfl rfl rfl ?_
  refine st_lkK (v := 0) (key := 0) (tgt := 28) dX5_thingRow_1 rfl (by decide) rfl rfl (fun c_1_0 => ?_) (fun c_1_0 t_1_0 => ?_)
  · refine st_aload_n (q := 29) dX5_thingRow_28 rfl rfl rfl ?_
    refine g_getA (q := 32) dX5_thingRow_29 rfl fl_X5_24.g hT rfl ?_
    refine st_areturn dX5_thingRow_32 rfl (by first | exact Or.inl ⟨_, rfl⟩ | exact Or.inr ⟨_, rfl⟩) ?_
    exact ⟨by simp_all [trI], rfl, rfl⟩
  refine st_lkK (v := 1) (key := 1) (tgt := 33) dX5_thingRow_1 rfl (by decide) rfl rfl (fun c_1_1 => ?_) (fun c_1_1 t_1_1 => ?_)
  · refine st_aload_n (q := 34) dX5_thingRow_33 rfl rfl rfl ?_
    refine g_getA (q := 37) dX5_thingRow_34 rfl fl_X5_30.g hT rfl ?_
    refine st_areturn dX5_thingRow_37 rfl (by first | exact Or.inl ⟨_, rfl⟩ | exact Or.inr ⟨_, rfl⟩) ?_
    exact ⟨by simp_all [trI], rfl, rfl⟩
  refine st_lookup (tgt := 38) (off := 37) dX5_thingRow_1 rfl (by simp [Op.lookupswitch.offset, t_1_0, t_1_1]) rfl ?_
  refine st_aload_n (q := 39) dX5_thingRow_38 rfl rfl rfl ?_
  refine g_getA (q := 42) dX5_thingRow_39 rfl fl_X5_33.g hT rfl ?_
  refine st_areturn dX5_thingRow_42 rfl (by first | exact Or.inl ⟨_, rfl⟩ | exact Or.inr ⟨_, rfl⟩) ?_
  exact ⟨by simp_all [trI], rfl, rfl⟩
abbrev PR (T : gT) (b n : Nat) (w : ev_W) : Prop := GR 4 layX4 1 T b n w
def tpT (T : gT) (tl : Nat) (c : Int32) : gT := if tl < 160 then tup (tup T 0 tl c.toInt8.toInt32) 1 0 (T 1 0 + 1) else T
set_option maxRecDepth 100000 in
set_option maxHeartbeats 4000000 in
theorem c_X4_addByte {E : ev_E} {n : Nat} {w : ev_W} {T : gT} {b : Nat} (hT : PR T b n w) {tl : Nat} (e1 : T 1 0 = nI tl) (ht : tl ≤ 160) {c : Int32} : Ct E mX4_addByte [.ref b, .int c] n w (ev_ch (some (.int (zI (decide (tl < 160))))) n w b (b + 2) (PR (tpT T tl c) b n)) := by
  refine Ct.of 0 (by decide) (Nat.le_of_ble_eq_true rfl) rfl ?_
  have hF : Fr b (b + 2) w w := Fr.rf
  refine st_aload_n (q := 1) dX4_addByte_0 rfl rfl rfl ?_
  refine g_get (q := 4) dX4_addByte_1 rfl fl_X4_13.g hT rfl ?_
  refine st_sipush (q := 7) dX4_addByte_4 rfl sp_160 ?_
  refine st_icmp_lt (q := 10) (tgt := 12) dX4_addByte_7 rfl rfl (fun c_7 => ?_) (fun c_7 => ?_)
  · have h9 : tl < 160 := by
      rw [e1] at c_7
      rcases Nat.lt_or_ge tl 160 with z | z
      · exact z
      · exact absurd c_7 (nI_nlt (b := 160) z (by omega))
    refine st_aload_n (q := 13) dX4_addByte_12 rfl rfl rfl ?_
    refine g_getA (q := 16) dX4_addByte_13 rfl fl_X4_9.g hT rfl ?_
    refine st_aload_n (q := 17) dX4_addByte_16 rfl rfl rfl ?_
    refine g_get (q := 20) dX4_addByte_17 rfl fl_X4_13.g hT rfl ?_
    refine st_iload_n (q := 21) dX4_addByte_20 rfl rfl rfl ?_
    refine st_i2b (q := 22) dX4_addByte_21 rfl ?_
    refine g_bast (q := 23) dX4_addByte_22 rfl gkX4 hT (i := 0) rfl (by show ev_ix (T 1 0) 160 tl; rw [e1]; exact ev_ix_nI (by omega) (by decide)) (fun w hT hF_ => ?_)
    replace hF := Fr.tr hF hF_
    refine st_aload_n (q := 24) dX4_addByte_23 rfl rfl rfl ?_
    refine st_dup (q := 25) dX4_addByte_24 rfl rfl ?_
    refine g_get (q := 28) dX4_addByte_25 rfl fl_X4_13.g hT rfl ?_
    refine st_iconst (q := 29) dX4_addByte_28 rfl ic_1 ?_
    refine st_iadd (q := 30) dX4_addByte_29 rfl ?_
    refine g_put (q := 33) dX4_addByte_30 rfl fl_X4_13 gkX4 hT rfl rfl rfl (fun w hT hF_ => ?_)
    replace hF := Fr.tr hF hF_
    refine st_iconst (q := 34) dX4_addByte_33 rfl ic_1 ?_
    refine st_nreturn dX4_addByte_34 rfl (by rfl) ?_
    rw [pk_vb] at hT
    exact ⟨by simp [h9, zI], rfl, by rw [tpT, if_pos h9]; exact hT, hF⟩
  · have h9 : ¬ tl < 160 := fun z => c_7 (by rw [e1]; exact nI_lt (b := 160) z (by decide))
    refine st_iconst (q := 11) dX4_addByte_10 rfl ic_0 ?_
    refine st_nreturn dX4_addByte_11 rfl (by rfl) ?_
    exact ⟨by simp [h9, zI], rfl, by rw [tpT, if_neg h9]; exact hT, hF⟩
abbrev SR (T : gT) (b n : Nat) (w : ev_W) : Prop := GR 2 layX2 1 T b n w
def rnT (T : gT) (l m : Int32) : gT := rowT (tup (tup (tup T 1 0 1) 2 0 l) 3 0 m) 0 (fun _ => 0)
def faI (T : gT) (l i : Int32) : Int32 := if T 1 0 = 0 then 1 else if l = T 2 0 then (if inI i 0 (T 3 0 - 1) = true then 0 else 2) else 3
def lbI (T : gT) (v : Int32) : Int32 := if T 2 0 = 0 then v.toInt8.toInt32 else if T 2 0 = 1 then v.toInt16.toInt32 else v
set_option maxRecDepth 100000 in
set_option maxHeartbeats 4000000 in
theorem c_X2_renew {E : ev_E} {n : Nat} {w : ev_W} {T : gT} {b : Nat} (hT : SR T b n w) {l m : Int32} : Ct E mX2_renew [.ref b, .int l, .int m] n w (ev_ch none n w b (b + 2) (SR (rnT T l m) b n)) := by
  refine Ct.of 0 (by decide) (Nat.le_of_ble_eq_true rfl) rfl ?_
  have hF : Fr b (b + 2) w w := Fr.rf
  refine st_aload_n (q := 1) dX2_renew_0 rfl rfl rfl ?_
  refine st_iconst (q := 2) dX2_renew_1 rfl ic_1 ?_
  refine g_put (q := 5) dX2_renew_2 rfl fl_X2_15 gkX2 hT rfl (by decide) (by decide) (fun w hT hF_ => ?_)
  replace hF := Fr.tr hF hF_
  refine st_aload_n (q := 6) dX2_renew_5 rfl rfl rfl ?_
  refine st_iload_n (q := 7) dX2_renew_6 rfl rfl rfl ?_
  refine g_put (q := 10) dX2_renew_7 rfl fl_X2_19 gkX2 hT rfl rfl rfl (fun w hT hF_ => ?_)
  replace hF := Fr.tr hF hF_
  refine st_aload_n (q := 11) dX2_renew_10 rfl rfl rfl ?_
  refine st_iload_n (q := 12) dX2_renew_11 rfl rfl rfl ?_
  refine g_put (q := 15) dX2_renew_12 rfl fl_X2_23 gkX2 hT rfl rfl rfl (fun w hT hF_ => ?_)
  replace hF := Fr.tr hF hF_
  refine st_aload_n (q := 16) dX2_renew_15 rfl rfl rfl ?_
  refine g_getA (q := 19) dX2_renew_16 rfl fl_X2_9.g hT rfl ?_
  refine st_iconst (q := 20) dX2_renew_19 rfl ic_0 ?_
  refine sm_S2 (q := 23) (M' := mJ7_fill_53178) dX2_renew_20 rfl ok_J7_fill_53178 mk_J7_fill_53178 ml_X2_26 ⟨Nat.le_of_ble_eq_true rfl, Nat.le_of_ble_eq_true rfl⟩ rfl (Nat.le_of_ble_eq_true rfl) ⟨rfl, rfl⟩ (g_fill (i := 0) gkX2 hT rfl (by decide)) ?_
  intro _ _ w h9 _
  obtain ⟨rfl, rfl, hT, hF_⟩ := h9
  replace hF := Fr.tr hF hF_
  refine st_return dX2_renew_23 rfl ?_
  exact ⟨rfl, rfl, hT, hF⟩
set_option maxRecDepth 100000 in
set_option maxHeartbeats 4000000 in
theorem c_X2_faultAt {E : ev_E} {n : Nat} {w : ev_W} {T : gT} {b : Nat} (hT : SR T b n w) {l i : Int32} : Ct E mX2_faultAt [.ref b, .int l, .int i] n w (ev_is (some (.int (faI T l i))) n w) := by
  refine Ct.of 0 (by decide) (Nat.le_of_ble_eq_true rfl) rfl ?_
  refine st_aload_n (q := 1) dX2_faultAt_0 rfl rfl rfl ?_
  refine g_get (q := 4) dX2_faultAt_1 rfl fl_X2_15.g hT rfl ?_
  refine st_if_ne (q := 7) (tgt := 9) dX2_faultAt_4 rfl rfl (fun c_4 => ?_) (fun c_4 => ?_)
  · refine st_iload_n (q := 10) dX2_faultAt_9 rfl rfl rfl ?_
    refine st_aload_n (q := 11) dX2_faultAt_10 rfl rfl rfl ?_
    refine g_get (q := 14) dX2_faultAt_11 rfl fl_X2_19.g hT rfl ?_
    refine st_icmp_eq (q := 17) (tgt := 19) dX2_faultAt_14 rfl rfl (fun c_14 => ?_) (fun c_14 => ?_)
    · refine st_iload_n (q := 20) dX2_faultAt_19 rfl rfl rfl ?_
      refine st_iconst (q := 21) dX2_faultAt_20 rfl ic_0 ?_
      refine st_aload_n (q := 22) dX2_faultAt_21 rfl rfl rfl ?_
      refine g_get (q := 25) dX2_faultAt_22 rfl fl_X2_23.g hT rfl ?_
      refine st_iconst (q := 26) dX2_faultAt_25 rfl ic_1 ?_
      refine st_isub (q := 27) dX2_faultAt_26 rfl ?_
      refine sp_SN3 (q := 30) (M' := mX6_within) dX2_faultAt_27 rfl ok_X6_within mk_X6_within ml_X2_32 ⟨Nat.le_of_ble_eq_true rfl, Nat.le_of_ble_eq_true rfl⟩ rfl (Nat.le_of_ble_eq_true rfl) ⟨rfl, rfl⟩ (c_X6_within) ?_
      refine st_if_eq (q := 33) (tgt := 37) dX2_faultAt_30 rfl rfl (fun c_30 => ?_) (fun c_30 => ?_)
      · refine st_iconst (q := 38) dX2_faultAt_37 rfl ic_2 ?_
        refine st_ireturn dX2_faultAt_38 rfl ?_
        exact ⟨by simp_all [faI, zI_0], rfl, rfl⟩
      · refine st_iconst (q := 34) dX2_faultAt_33 rfl ic_0 ?_
        refine st_goto (q := 38) dX2_faultAt_34 rfl ?_
        refine st_ireturn dX2_faultAt_38 rfl ?_
        exact ⟨by simp_all [faI, zI_0], rfl, rfl⟩
    · refine st_iconst (q := 18) dX2_faultAt_17 rfl ic_3 ?_
      refine st_ireturn dX2_faultAt_18 rfl ?_
      exact ⟨by simp_all [faI, zI_0], rfl, rfl⟩
  · refine st_iconst (q := 8) dX2_faultAt_7 rfl ic_1 ?_
    refine st_ireturn dX2_faultAt_8 rfl ?_
    exact ⟨by simp_all [faI, zI_0], rfl, rfl⟩
set_option maxRecDepth 100000 in
set_option maxHeartbeats 4000000 in
theorem c_X2_lowestBits {E : ev_E} {n : Nat} {w : ev_W} {T : gT} {b : Nat} (hT : SR T b n w) {v : Int32} : Ct E mX2_lowestBits [.ref b, .int v] n w (ev_is (some (.int (lbI T v))) n w) := by
  refine Ct.of 0 (by decide) (Nat.le_of_ble_eq_true rfl) rfl ?_
  refine st_aload_n (q := 1) dX2_lowestBits_0 rfl rfl rfl ?_
  refine g_get (q := 4) dX2_lowestBits_1 rfl fl_X2_19.g hT rfl ?_
  refine st_lkK (v := 0) (key := 0) (tgt := 32) dX2_lowestBits_4 rfl (by decide) rfl rfl (fun c_4_0 => ?_) (fun c_4_0 t_4_0 => ?_)
  · refine st_iload_n (q := 33) dX2_lowestBits_32 rfl rfl rfl ?_
    refine st_i2b (q := 34) dX2_lowestBits_33 rfl ?_
    refine st_ireturn dX2_lowestBits_34 rfl ?_
    exact ⟨by simp_all [lbI], rfl, rfl⟩
  refine st_lkK (v := 1) (key := 1) (tgt := 35) dX2_lowestBits_4 rfl (by decide) rfl rfl (fun c_4_1 => ?_) (fun c_4_1 t_4_1 => ?_)
  · refine st_iload_n (q := 36) dX2_lowestBits_35 rfl rfl rfl ?_
    refine st_i2s (q := 37) dX2_lowestBits_36 rfl ?_
    refine st_ireturn dX2_lowestBits_37 rfl ?_
    exact ⟨by simp_all [lbI], rfl, rfl⟩
  refine st_lookup (tgt := 38) (off := 34) dX2_lowestBits_4 rfl (by simp [Op.lookupswitch.offset, t_4_0, t_4_1]) rfl ?_
  refine st_iload_n (q := 39) dX2_lowestBits_38 rfl rfl rfl ?_
  refine st_ireturn dX2_lowestBits_39 rfl ?_
  exact ⟨by simp_all [lbI], rfl, rfl⟩
abbrev GS (T : gT) (b n : Nat) (w : ev_W) : Prop := GR 3 layX3 2 T b n w
abbrev GF (T : gT) (b n : Nat) (w : ev_W) : Prop := GR 0 layX0 1 T b n w
def sgT (T : gT) (sz : Nat) (x y : Int32) : gT := if sz < 6 then tup (tup (tup T 0 sz x) 1 sz y) 2 0 (T 2 0 + 1) else T
def mxI (x y : Int32) : Int32 := if x < y then y else x
def ldF (T : gT) : Nat → Int32
  | 0 => 0
  | k + 1 => mxI (ldF T k) (T 0 k)
set_option maxRecDepth 100000 in
set_option maxHeartbeats 4000000 in
theorem c_X3_addSighting {E : ev_E} {n : Nat} {w : ev_W} {T : gT} {b : Nat} (hT : GS T b n w) {sz : Nat} (e2 : T 2 0 = nI sz) (hs : sz ≤ 6) {x y : Int32} : Ct E mX3_addSighting [.ref b, .int x, .int y] n w (ev_ch (some (.int (zI (decide (sz < 6))))) n w b (b + 3) (GS (sgT T sz x y) b n)) := by
  refine Ct.of 0 (by decide) (Nat.le_of_ble_eq_true rfl) rfl ?_
  have hF : Fr b (b + 3) w w := Fr.rf
  refine st_aload_n (q := 1) dX3_addSighting_0 rfl rfl rfl ?_
  refine g_get (q := 4) dX3_addSighting_1 rfl fl_X3_18.g hT rfl ?_
  refine st_bipush (q := 6) dX3_addSighting_4 rfl bp_6 ?_
  refine st_icmp_lt (q := 9) (tgt := 11) dX3_addSighting_6 rfl rfl (fun c_6 => ?_) (fun c_6 => ?_)
  · have h9 : sz < 6 := by
      rw [e2] at c_6
      rcases Nat.lt_or_ge sz 6 with z | z
      · exact z
      · exact absurd c_6 (nI_nlt (b := 6) z (by omega))
    refine st_aload_n (q := 12) dX3_addSighting_11 rfl rfl rfl ?_
    refine g_getA (q := 15) dX3_addSighting_12 rfl fl_X3_9.g hT rfl ?_
    refine st_aload_n (q := 16) dX3_addSighting_15 rfl rfl rfl ?_
    refine g_get (q := 19) dX3_addSighting_16 rfl fl_X3_18.g hT rfl ?_
    refine st_iload_n (q := 20) dX3_addSighting_19 rfl rfl rfl ?_
    refine g_iast (q := 21) dX3_addSighting_20 rfl gkX3 hT (i := 0) rfl (by show ev_ix (T 2 0) 6 sz; rw [e2]; exact ev_ix_nI (by omega) (by decide)) (fun w hT hF_ => ?_)
    replace hF := Fr.tr hF hF_
    refine st_aload_n (q := 22) dX3_addSighting_21 rfl rfl rfl ?_
    refine g_getA (q := 25) dX3_addSighting_22 rfl fl_X3_15.g hT rfl ?_
    refine st_aload_n (q := 26) dX3_addSighting_25 rfl rfl rfl ?_
    refine g_get (q := 29) dX3_addSighting_26 rfl fl_X3_18.g hT rfl ?_
    refine st_iload_n (q := 30) dX3_addSighting_29 rfl rfl rfl ?_
    refine g_iast (q := 31) dX3_addSighting_30 rfl gkX3 hT (i := 1) rfl (by show ev_ix (T 2 0) 6 sz; rw [e2]; exact ev_ix_nI (by omega) (by decide)) (fun w hT hF_ => ?_)
    replace hF := Fr.tr hF hF_
    refine st_aload_n (q := 32) dX3_addSighting_31 rfl rfl rfl ?_
    refine st_dup (q := 33) dX3_addSighting_32 rfl rfl ?_
    refine g_get (q := 36) dX3_addSighting_33 rfl fl_X3_18.g hT rfl ?_
    refine st_iconst (q := 37) dX3_addSighting_36 rfl ic_1 ?_
    refine st_iadd (q := 38) dX3_addSighting_37 rfl ?_
    refine g_put (q := 41) dX3_addSighting_38 rfl fl_X3_18 gkX3 hT rfl rfl rfl (fun w hT hF_ => ?_)
    replace hF := Fr.tr hF hF_
    refine st_iconst (q := 42) dX3_addSighting_41 rfl ic_1 ?_
    refine st_nreturn dX3_addSighting_42 rfl (by rfl) ?_
    exact ⟨by simp [h9, zI], rfl, by rw [sgT, if_pos h9]; exact hT, hF⟩
  · have h9 : ¬ sz < 6 := fun z => c_6 (by rw [e2]; exact nI_lt (b := 6) z (by decide))
    refine st_iconst (q := 10) dX3_addSighting_9 rfl ic_0 ?_
    refine st_nreturn dX3_addSighting_10 rfl (by rfl) ?_
    exact ⟨by simp [h9, zI], rfl, by rw [sgT, if_neg h9]; exact hT, hF⟩
set_option maxRecDepth 100000 in
set_option maxHeartbeats 4000000 in
theorem c_X3_latestDay {E : ev_E} {n : Nat} {w : ev_W} {T : gT} {b : Nat} (hT : GS T b n w) {sz : Nat} (e2 : T 2 0 = nI sz) (hs : sz ≤ 6) : Ct E mX3_latestDay [.ref b] n w (ev_is (some (.int (ldF T sz))) n w) := by
  refine Ct.of 2 (by decide) (Nat.le_of_ble_eq_true rfl) rfl ?_
  have lp : ∀ (k i : Nat), i + k = sz → Ev E mX3_latestDay 4 [some (.ref b), some (.int (ldF T i)), some (.int (nI i))] [] n w (0, 0) (ev_is (some (.int (ldF T sz))) n w) := by
    intro k
    induction k with
    | zero =>
      intro i hi
      obtain rfl : i = sz := hi
      refine st_iload_n (q := 5) dX3_latestDay_4 rfl rfl rfl ?_
      refine st_aload_n (q := 6) dX3_latestDay_5 rfl rfl rfl ?_
      refine g_get (q := 9) dX3_latestDay_6 rfl fl_X3_18.g hT rfl ?_
      refine st_icmp_ge (q := 12) (tgt := 29) dX3_latestDay_9 rfl rfl (fun c_9 => ?_) (fun c_9 => False.elim (c_9 (by rw [e2]; exact nI_le (by omega) (by omega))))
      refine st_iload_n (q := 30) dX3_latestDay_29 rfl rfl rfl ?_
      refine st_ireturn dX3_latestDay_30 rfl ?_
      exact ⟨rfl, rfl, rfl⟩
    | succ k ih =>
      intro i hi
      refine st_iload_n (q := 5) dX3_latestDay_4 rfl rfl rfl ?_
      refine st_aload_n (q := 6) dX3_latestDay_5 rfl rfl rfl ?_
      refine g_get (q := 9) dX3_latestDay_6 rfl fl_X3_18.g hT rfl ?_
      refine st_icmp_ge (q := 12) (tgt := 29) dX3_latestDay_9 rfl rfl (fun c_9 => False.elim (absurd (by rw [← e2]; exact c_9) (nI_ge (a := i) (b := sz) (by omega) (by omega)))) (fun c_9 => ?_)
      refine st_iload_n (q := 13) dX3_latestDay_12 rfl rfl rfl ?_
      refine st_aload_n (q := 14) dX3_latestDay_13 rfl rfl rfl ?_
      refine g_getA (q := 17) dX3_latestDay_14 rfl fl_X3_9.g hT rfl ?_
      refine st_iload_n (q := 18) dX3_latestDay_17 rfl rfl rfl ?_
      refine g_iald (q := 19) dX3_latestDay_18 rfl gkX3 hT (i := 0) rfl (by first | assumption | exact ev_ix_nI (by omega) (by decide)) ?_
      refine st_mmax (q := 22) dX3_latestDay_19 rfl ml_X3_22 jm_max_s jm_i jm_max_c (Nat.le_of_ble_eq_true rfl) (Nat.le_of_ble_eq_true rfl) (Nat.le_of_ble_eq_true rfl) ?_
      refine st_istore_n (q := 23) (L' := [_, _, _]) dX3_latestDay_22 rfl rfl (Nat.le_of_ble_eq_true rfl) rfl ?_
      refine st_iinc (q := 26) (L' := [_, _, _]) dX3_latestDay_23 rfl rfl (nI_succ _).symm (Nat.le_of_ble_eq_true rfl) rfl ?_
      refine st_goto (q := 4) dX3_latestDay_26 rfl ?_
      exact ih (i + 1) (by omega)
  refine st_iconst (q := 1) dX3_latestDay_0 rfl ic_0 ?_
  refine st_istore_n (q := 2) (L' := [_, _, _]) dX3_latestDay_1 rfl rfl (Nat.le_of_ble_eq_true rfl) rfl ?_
  refine st_iconst (q := 3) dX3_latestDay_2 rfl ic_0 ?_
  refine st_istore_n (q := 4) (L' := [_, _, _]) dX3_latestDay_3 rfl rfl (Nat.le_of_ble_eq_true rfl) rfl ?_
  exact lp sz 0 (by omega)
set_option maxRecDepth 100000 in
set_option maxHeartbeats 4000000 in
theorem c_X0_empty {E : ev_E} {n : Nat} {w : ev_W} {T : gT} {b : Nat} (hU : GF T b n w) : Ct E mX0_empty [.ref b] n w (ev_ch none n w b (b + 2) (GF (tup T 1 0 0) b n)) := by
  refine Ct.of 0 (by decide) (Nat.le_of_ble_eq_true rfl) rfl ?_
  have hF : Fr b (b + 2) w w := Fr.rf
  refine st_aload_n (q := 1) dX0_empty_0 rfl rfl rfl ?_
  refine st_iconst (q := 2) dX0_empty_1 rfl ic_0 ?_
  refine g_put (q := 5) dX0_empty_2 rfl fl_X0_15 gkX0 hU rfl rfl rfl (fun w hU hF_ => ?_)
  replace hF := Fr.tr hF hF_
  refine st_return dX0_empty_5 rfl ?_
  exact ⟨rfl, rfl, hU, hF⟩
set_option maxRecDepth 100000 in
set_option maxHeartbeats 4000000 in
theorem c_X0_sorrowOf {E : ev_E} {n : Nat} {w : ev_W} {T : gT} {b : Nat} (hU : GF T b n w) {x y : Int32} {j : Nat} (hx : ev_ix (x * 21 + y) 651 j) : Ct E mX0_sorrowOf [.ref b, .int x, .int y] n w (ev_is (some (.int (T 0 j))) n w) := by
  refine Ct.of 0 (by decide) (Nat.le_of_ble_eq_true rfl) rfl ?_
  refine st_aload_n (q := 1) dX0_sorrowOf_0 rfl rfl rfl ?_
  refine g_getA (q := 4) dX0_sorrowOf_1 rfl fl_X0_11.g hU rfl ?_
  refine st_iload_n (q := 5) dX0_sorrowOf_4 rfl rfl rfl ?_
  refine st_bipush (q := 7) dX0_sorrowOf_5 rfl bp_21 ?_
  refine st_imul (q := 8) dX0_sorrowOf_7 rfl ?_
  refine st_iload_n (q := 9) dX0_sorrowOf_8 rfl rfl rfl ?_
  refine st_iadd (q := 10) dX0_sorrowOf_9 rfl ?_
  refine g_iald (q := 11) dX0_sorrowOf_10 rfl gkX0 hU (i := 0) rfl (by first | assumption | exact ev_ix_nI (by omega) (by decide)) ?_
  refine st_ireturn dX0_sorrowOf_11 rfl ?_
  exact ⟨rfl, rfl, rfl⟩
theorem ix21 {r d : Nat} (hr : r < 31) (hd : d < 21) : ev_ix (nI r * 21 + nI d) 651 (r * 21 + d) := by
  rw [show nI r * 21 + nI d = nI (r * 21 + d) from by rw [show (21 : Int32) = nI 21 from rfl, pk_mul, nI_add]]
  exact ev_ix_nI (by omega) (by decide)
def agF (T U : gT) (sz r : Nat) : Bool := (List.range sz).all (fun k => decide (U 0 (r * 21 + (T 0 k).toNatClampNeg) = T 1 k))
theorem ix21z {x : Int32} {r : Nat} (hr : r < 31) (h : vp_in x 21) : ev_ix (nI r * 21 + x) 651 (r * 21 + x.toNatClampNeg) := by
  obtain ⟨d, hd, rfl⟩ := nI_of (x := x) (fun q => h (Or.inl q))
  rw [nI_clamp hd]
  exact ix21 hr (Nat.lt_of_not_le (fun z => h (Or.inr (by rw [nI_clamp hd]; exact z))))
def bsF (p : Nat → Bool) : Nat → Int32
  | 0 => 0
  | k + 1 => bsF p k ||| (if p k = true then 1 <<< (nI k &&& 31) else 0)
def alF (U : gT) (op : Int32) (r d : Nat) : Nat → Int32
  | 0 => 0
  | k + 1 => alF U op r d k + (if btI op (nI (r + k)) = true then (if U 0 ((r + k) * 21 + d) = U 0 (r * 21 + d) then 1 else 0) else 0)
def lwF (U : gT) (op : Int32) (d R : Nat) : Nat → Int32
  | 0 => 0
  | r + 1 => mxI (lwF U op d R r) (alF U op r d (R - r))
def faU (U T : gT) (dd nh nt r : Nat) : Nat → gT
  | 0 => U
  | i + 1 => tup (faU U T dd nh nt r i) 0 (r * 21 + i) (dysT T dd nh nt i 17 0)
theorem faU_1 {U T : gT} {dd nh nt r : Nat} : ∀ i, faU U T dd nh nt r i 1 = U 1
  | 0 => rfl
  | i + 1 => by rw [faU, tup_n (by decide), faU_1 i]
set_option maxRecDepth 100000 in
set_option maxHeartbeats 4000000 in
theorem c_X3_agreeWith {E : ev_E} {n : Nat} {w : ev_W} {T : gT} {b : Nat} (hT : GS T b n w) {sz : Nat} (e2 : T 2 0 = nI sz) (hs : sz ≤ 6) {U : gT} {c : Nat} (hU : GF U c n w) (hb : ∀ k, k < sz → vp_in (T 0 k) 21) {r : Nat} (hr : r < 31) : Ct E mX3_agreeWith [.ref b, .ref c, .int (nI r)] n w (ev_is (some (.int (zI (agF T U sz r)))) n w) := by
  refine Ct.of 1 (by decide) (Nat.le_of_ble_eq_true rfl) rfl ?_
  have lp : ∀ (k i : Nat), i + k = sz → (∀ j, j < i → U 0 (r * 21 + (T 0 j).toNatClampNeg) = T 1 j) → Ev E mX3_agreeWith 2 [some (.ref b), some (.ref c), some (.int (nI r)), some (.int (nI i))] [] n w (0, 0) (ev_is (some (.int (zI (agF T U sz r)))) n w) := by
    intro k
    induction k with
    | zero =>
      intro i hi hall
      obtain rfl : i = sz := hi
      refine st_iload_n (q := 3) dX3_agreeWith_2 rfl rfl rfl ?_
      refine st_aload_n (q := 4) dX3_agreeWith_3 rfl rfl rfl ?_
      refine g_get (q := 7) dX3_agreeWith_4 rfl fl_X3_18.g hT rfl ?_
      refine st_icmp_ge (q := 10) (tgt := 38) dX3_agreeWith_7 rfl rfl (fun c_7 => ?_) (fun c_7 => False.elim (c_7 (by rw [e2]; exact nI_le (by omega) (by omega))))
      refine st_iconst (q := 39) dX3_agreeWith_38 rfl ic_1 ?_
      refine st_nreturn dX3_agreeWith_39 rfl (by rfl) ?_
      have e9 : agF T U i r = true := List.all_eq_true.mpr (fun j hj => decide_eq_true (hall j (List.mem_range.mp hj)))
      exact ⟨by rw [e9]; rfl, rfl, rfl⟩
    | succ k ih =>
      intro i hi hall
      refine st_iload_n (q := 3) dX3_agreeWith_2 rfl rfl rfl ?_
      refine st_aload_n (q := 4) dX3_agreeWith_3 rfl rfl rfl ?_
      refine g_get (q := 7) dX3_agreeWith_4 rfl fl_X3_18.g hT rfl ?_
      refine st_icmp_ge (q := 10) (tgt := 38) dX3_agreeWith_7 rfl rfl (fun c_7 => False.elim (absurd (by rw [← e2]; exact c_7) (nI_ge (a := i) (b := sz) (by omega) (by omega)))) (fun c_7 => ?_)
      refine st_aload_n (q := 11) dX3_agreeWith_10 rfl rfl rfl ?_
      refine st_iload_n (q := 12) dX3_agreeWith_11 rfl rfl rfl ?_
      refine st_aload_n (q := 13) dX3_agreeWith_12 rfl rfl rfl ?_
      refine g_getA (q := 16) dX3_agreeWith_13 rfl fl_X3_9.g hT rfl ?_
      refine st_iload_n (q := 17) dX3_agreeWith_16 rfl rfl rfl ?_
      refine g_iald (q := 18) dX3_agreeWith_17 rfl gkX3 hT (i := 0) rfl (by first | assumption | exact ev_ix_nI (by omega) (by decide)) ?_
      refine sp_V2 (q := 21) (M' := mX0_sorrowOf) dX3_agreeWith_18 rfl ok_X0_sorrowOf mk_X0_sorrowOf ml_X3_37 ⟨Nat.le_of_ble_eq_true rfl, Nat.le_of_ble_eq_true rfl⟩ rfl (Nat.le_of_ble_eq_true rfl) (g_rv hU rfl) ⟨rfl, rfl⟩ (c_X0_sorrowOf hU (ix21z hr (hb i (by omega)))) ?_
      refine st_aload_n (q := 22) dX3_agreeWith_21 rfl rfl rfl ?_
      refine g_getA (q := 25) dX3_agreeWith_22 rfl fl_X3_15.g hT rfl ?_
      refine st_iload_n (q := 26) dX3_agreeWith_25 rfl rfl rfl ?_
      refine g_iald (q := 27) dX3_agreeWith_26 rfl gkX3 hT (i := 1) rfl (by first | assumption | exact ev_ix_nI (by omega) (by decide)) ?_
      refine st_icmp_eq (q := 30) (tgt := 32) dX3_agreeWith_27 rfl rfl (fun c_27 => ?_) (fun c_27 => ?_)
      · refine st_iinc (q := 35) (L' := [_, _, _, _]) dX3_agreeWith_32 rfl rfl (nI_succ _).symm (Nat.le_of_ble_eq_true rfl) rfl ?_
        refine st_goto (q := 2) dX3_agreeWith_35 rfl ?_
        refine ih (i + 1) (by omega) (fun j hj => ?_)
        by_cases e : j = i
        · subst e; exact c_27
        · exact hall j (by omega)
      · refine st_iconst (q := 31) dX3_agreeWith_30 rfl ic_0 ?_
        refine st_nreturn dX3_agreeWith_31 rfl (by rfl) ?_
        have e9 : agF T U sz r = false := List.all_eq_false.mpr ⟨i, List.mem_range.mpr (by omega), by simp [c_27]⟩
        exact ⟨by rw [e9]; rfl, rfl, rfl⟩
  refine st_iconst (q := 1) dX3_agreeWith_0 rfl ic_0 ?_
  refine st_istore_n (q := 2) (L' := [_, _, _, _]) dX3_agreeWith_1 rfl rfl (Nat.le_of_ble_eq_true rfl) rfl ?_
  exact lp sz 0 (by omega) (fun j hj => absurd hj (Nat.not_lt_zero j))
set_option maxRecDepth 100000 in
set_option maxHeartbeats 4000000 in
theorem c_X3_rowsAsSeen {E : ev_E} {n : Nat} {w : ev_W} {T : gT} {b : Nat} (hT : GS T b n w) {sz : Nat} (e2 : T 2 0 = nI sz) (hs : sz ≤ 6) {U : gT} {c : Nat} (hU : GF U c n w) (hb : ∀ k, k < sz → vp_in (T 0 k) 21) {R : Nat} (e1 : U 1 0 = nI R) (hR : R ≤ 31) : Ct E mX3_rowsAsSeen [.ref b, .ref c] n w (ev_is (some (.int (bsF (agF T U sz) R))) n w) := by
  refine Ct.of 2 (by decide) (Nat.le_of_ble_eq_true rfl) rfl ?_
  have lp : ∀ (k i : Nat), i + k = R → Ev E mX3_rowsAsSeen 4 [some (.ref b), some (.ref c), some (.int (bsF (agF T U sz) i)), some (.int (nI i))] [] n w (0, 0) (ev_is (some (.int (bsF (agF T U sz) R))) n w) := by
    intro k
    induction k with
    | zero =>
      intro i hi
      obtain rfl : i = R := hi
      refine st_iload_n (q := 5) dX3_rowsAsSeen_4 rfl rfl rfl ?_
      refine st_aload_n (q := 6) dX3_rowsAsSeen_5 rfl rfl rfl ?_
      refine g_get (q := 9) dX3_rowsAsSeen_6 rfl fl_X3_28.g hU rfl ?_
      refine st_icmp_ge (q := 12) (tgt := 37) dX3_rowsAsSeen_9 rfl rfl (fun c_9 => ?_) (fun c_9 => False.elim (c_9 (by rw [e1]; exact nI_le (by omega) (by omega))))
      refine st_iload_n (q := 38) dX3_rowsAsSeen_37 rfl rfl rfl ?_
      refine st_ireturn dX3_rowsAsSeen_38 rfl ?_
      exact ⟨rfl, rfl, rfl⟩
    | succ k ih =>
      intro i hi
      refine st_iload_n (q := 5) dX3_rowsAsSeen_4 rfl rfl rfl ?_
      refine st_aload_n (q := 6) dX3_rowsAsSeen_5 rfl rfl rfl ?_
      refine g_get (q := 9) dX3_rowsAsSeen_6 rfl fl_X3_28.g hU rfl ?_
      refine st_icmp_ge (q := 12) (tgt := 37) dX3_rowsAsSeen_9 rfl rfl (fun c_9 => False.elim (absurd (by rw [← e1]; exact c_9) (nI_ge (a := i) (b := R) (by omega) (by omega)))) (fun c_9 => ?_)
      refine st_iload_n (q := 13) dX3_rowsAsSeen_12 rfl rfl rfl ?_
      refine st_aload_n (q := 14) dX3_rowsAsSeen_13 rfl rfl rfl ?_
      refine st_aload_n (q := 15) dX3_rowsAsSeen_14 rfl rfl rfl ?_
      refine st_iload_n (q := 16) dX3_rowsAsSeen_15 rfl rfl rfl ?_
      refine sp_V2 (q := 19) (M' := mX3_agreeWith) dX3_rowsAsSeen_16 rfl ok_X3_agreeWith mk_X3_agreeWith ml_X3_33 ⟨Nat.le_of_ble_eq_true rfl, Nat.le_of_ble_eq_true rfl⟩ rfl (Nat.le_of_ble_eq_true rfl) (g_rv hT rfl) ⟨rfl, rfl⟩ (c_X3_agreeWith hT e2 hs hU hb (r := i) (by omega)) ?_
      refine st_if_eq (q := 22) (tgt := 28) dX3_rowsAsSeen_19 rfl rfl (fun c_19 => ?_) (fun c_19 => ?_)
      · refine st_iconst (q := 29) dX3_rowsAsSeen_28 rfl ic_0 ?_
        refine st_ior (q := 30) dX3_rowsAsSeen_29 rfl ?_
        refine st_istore_n (q := 31) (L' := [_, _, _, _]) dX3_rowsAsSeen_30 rfl rfl (Nat.le_of_ble_eq_true rfl) rfl ?_
        refine st_iinc (q := 34) (L' := [_, _, _, _]) dX3_rowsAsSeen_31 rfl rfl (nI_succ _).symm (Nat.le_of_ble_eq_true rfl) rfl ?_
        refine st_goto (q := 4) dX3_rowsAsSeen_34 rfl ?_
        have K := ih (i + 1) (by omega)
        first | (rw [bsF, if_pos (zI_1.mp c_19)] at K; exact K) | (rw [bsF, if_neg (by rw [zI_0.mp c_19]; decide)] at K; exact K)
      · refine st_iconst (q := 23) dX3_rowsAsSeen_22 rfl ic_1 ?_
        refine st_iload_n (q := 24) dX3_rowsAsSeen_23 rfl rfl rfl ?_
        refine st_ishl (q := 25) dX3_rowsAsSeen_24 rfl ?_
        refine st_goto (q := 29) dX3_rowsAsSeen_25 rfl ?_
        refine st_ior (q := 30) dX3_rowsAsSeen_29 rfl ?_
        refine st_istore_n (q := 31) (L' := [_, _, _, _]) dX3_rowsAsSeen_30 rfl rfl (Nat.le_of_ble_eq_true rfl) rfl ?_
        refine st_iinc (q := 34) (L' := [_, _, _, _]) dX3_rowsAsSeen_31 rfl rfl (nI_succ _).symm (Nat.le_of_ble_eq_true rfl) rfl ?_
        refine st_goto (q := 4) dX3_rowsAsSeen_34 rfl ?_
        have K := ih (i + 1) (by omega)
        first | (rw [bsF, if_pos (zI_1.mp c_19)] at K; exact K) | (rw [bsF, if_neg (by rw [zI_0.mp c_19]; decide)] at K; exact K)
  refine st_iconst (q := 1) dX3_rowsAsSeen_0 rfl ic_0 ?_
  refine st_istore_n (q := 2) (L' := [_, _, _, _]) dX3_rowsAsSeen_1 rfl rfl (Nat.le_of_ble_eq_true rfl) rfl ?_
  refine st_iconst (q := 3) dX3_rowsAsSeen_2 rfl ic_0 ?_
  refine st_istore_n (q := 4) (L' := [_, _, _, _]) dX3_rowsAsSeen_3 rfl rfl (Nat.le_of_ble_eq_true rfl) rfl ?_
  exact lp R 0 (by omega)
set_option maxRecDepth 100000 in
set_option maxHeartbeats 4000000 in
theorem c_X0_alikeFrom {E : ev_E} {n : Nat} {w : ev_W} {U : gT} {b : Nat} (hU : GF U b n w) {R : Nat} (e1 : U 1 0 = nI R) (hR : R ≤ 31) {op : Int32} {r d : Nat} (hr : r < R) (hd : d < 21) : Ct E mX0_alikeFrom [.ref b, .int (nI r), .int op, .int (nI d)] n w (ev_is (some (.int (alF U op r d (R - r)))) n w) := by
  refine Ct.of 3 (by decide) (Nat.le_of_ble_eq_true rfl) rfl ?_
  have lp : ∀ (k i : Nat), r + i + k = R → ∀ (lc : Option Value), Ev E mX0_alikeFrom 6 [some (.ref b), some (.int (nI r)), some (.int op), some (.int (nI d)), some (.int (alF U op r d i)), some (.int (nI (r + i))), lc] [] n w (0, 0) (ev_is (some (.int (alF U op r d (R - r)))) n w) := by
    intro k
    induction k with
    | zero =>
      intro i hi lc
      obtain rfl : i = R - r := by omega
      refine st_iload (q := 8) dX0_alikeFrom_6 rfl rfl ?_
      refine st_aload_n (q := 9) dX0_alikeFrom_8 rfl rfl rfl ?_
      refine g_get (q := 12) dX0_alikeFrom_9 rfl fl_X0_15.g hU rfl ?_
      refine st_icmp_ge (q := 15) (tgt := 68) dX0_alikeFrom_12 rfl rfl (fun c_12 => ?_) (fun c_12 => False.elim (c_12 (by rw [e1]; exact nI_le (by omega) (by omega))))
      refine st_iload (q := 70) dX0_alikeFrom_68 rfl rfl ?_
      refine st_ireturn dX0_alikeFrom_70 rfl ?_
      exact ⟨rfl, rfl, rfl⟩
    | succ k ih =>
      intro i hi lc
      refine st_iload (q := 8) dX0_alikeFrom_6 rfl rfl ?_
      refine st_aload_n (q := 9) dX0_alikeFrom_8 rfl rfl rfl ?_
      refine g_get (q := 12) dX0_alikeFrom_9 rfl fl_X0_15.g hU rfl ?_
      refine st_icmp_ge (q := 15) (tgt := 68) dX0_alikeFrom_12 rfl rfl (fun c_12 => False.elim (absurd (by rw [← e1]; exact c_12) (nI_ge (a := r + i) (b := R) (by omega) (by omega)))) (fun c_12 => ?_)
      refine st_iload_n (q := 16) dX0_alikeFrom_15 rfl rfl rfl ?_
      refine st_iload (q := 18) dX0_alikeFrom_16 rfl rfl ?_
      refine st_ishr (q := 19) dX0_alikeFrom_18 rfl ?_
      refine st_iconst (q := 20) dX0_alikeFrom_19 rfl ic_1 ?_
      refine st_iand (q := 21) dX0_alikeFrom_20 rfl ?_
      refine st_if_eq (q := 24) (tgt := 44) dX0_alikeFrom_21 rfl rfl (fun c_21 => ?_) (fun c_21 => ?_)
      · refine st_iconst (q := 45) dX0_alikeFrom_44 rfl ic_0 ?_
        refine st_istore (q := 47) (L' := [_, _, _, _, _, _, _]) dX0_alikeFrom_45 rfl (Nat.le_of_ble_eq_true rfl) rfl ?_
        refine st_iload (q := 49) dX0_alikeFrom_47 rfl rfl ?_
        refine st_iload (q := 51) dX0_alikeFrom_49 rfl rfl ?_
        refine st_if_eq (q := 54) (tgt := 58) dX0_alikeFrom_51 rfl rfl (fun c_51 => ?_) (fun c_51 => ?_)
        · refine st_iconst (q := 59) dX0_alikeFrom_58 rfl ic_0 ?_
          refine st_iadd (q := 60) dX0_alikeFrom_59 rfl ?_
          refine st_istore (q := 62) (L' := [_, _, _, _, _, _, _]) dX0_alikeFrom_60 rfl (Nat.le_of_ble_eq_true rfl) rfl ?_
          refine st_iinc (q := 65) (L' := [_, _, _, _, _, _, _]) dX0_alikeFrom_62 rfl rfl (nI_succ _).symm (Nat.le_of_ble_eq_true rfl) rfl ?_
          refine st_goto (q := 6) dX0_alikeFrom_65 rfl ?_
          have K := ih (i + 1) (by omega)
          rw [alF] at K
          first
            | exact absurd c_51 (by decide)
            | exact absurd rfl c_51
            | (rw [if_neg (by rw [btI, decide_eq_true c_21]; decide)] at K; exact K _)
            | (rw [if_pos (by rw [btI, decide_eq_false c_21]; rfl), if_pos c_37] at K; exact K _)
            | (rw [if_pos (by rw [btI, decide_eq_false c_21]; rfl), if_neg c_37] at K; exact K _)
        · refine st_iconst (q := 55) dX0_alikeFrom_54 rfl ic_1 ?_
          refine st_goto (q := 59) dX0_alikeFrom_55 rfl ?_
          refine st_iadd (q := 60) dX0_alikeFrom_59 rfl ?_
          refine st_istore (q := 62) (L' := [_, _, _, _, _, _, _]) dX0_alikeFrom_60 rfl (Nat.le_of_ble_eq_true rfl) rfl ?_
          refine st_iinc (q := 65) (L' := [_, _, _, _, _, _, _]) dX0_alikeFrom_62 rfl rfl (nI_succ _).symm (Nat.le_of_ble_eq_true rfl) rfl ?_
          refine st_goto (q := 6) dX0_alikeFrom_65 rfl ?_
          have K := ih (i + 1) (by omega)
          rw [alF] at K
          first
            | exact absurd c_51 (by decide)
            | exact absurd rfl c_51
            | (rw [if_neg (by rw [btI, decide_eq_true c_21]; decide)] at K; exact K _)
            | (rw [if_pos (by rw [btI, decide_eq_false c_21]; rfl), if_pos c_37] at K; exact K _)
            | (rw [if_pos (by rw [btI, decide_eq_false c_21]; rfl), if_neg c_37] at K; exact K _)
      · refine st_aload_n (q := 25) dX0_alikeFrom_24 rfl rfl rfl ?_
        refine st_iload (q := 27) dX0_alikeFrom_25 rfl rfl ?_
        refine st_iload_n (q := 28) dX0_alikeFrom_27 rfl rfl rfl ?_
        refine sp_V2 (q := 31) (M' := mX0_sorrowOf) dX0_alikeFrom_28 rfl ok_X0_sorrowOf mk_X0_sorrowOf ml_X0_45 ⟨Nat.le_of_ble_eq_true rfl, Nat.le_of_ble_eq_true rfl⟩ rfl (Nat.le_of_ble_eq_true rfl) (g_rv hU rfl) ⟨rfl, rfl⟩ (c_X0_sorrowOf hU (ix21 (r := r + i) (by omega) hd)) ?_
        refine st_aload_n (q := 32) dX0_alikeFrom_31 rfl rfl rfl ?_
        refine st_iload_n (q := 33) dX0_alikeFrom_32 rfl rfl rfl ?_
        refine st_iload_n (q := 34) dX0_alikeFrom_33 rfl rfl rfl ?_
        refine sp_V2 (q := 37) (M' := mX0_sorrowOf) dX0_alikeFrom_34 rfl ok_X0_sorrowOf mk_X0_sorrowOf ml_X0_45 ⟨Nat.le_of_ble_eq_true rfl, Nat.le_of_ble_eq_true rfl⟩ rfl (Nat.le_of_ble_eq_true rfl) (g_rv hU rfl) ⟨rfl, rfl⟩ (c_X0_sorrowOf hU (ix21 (r := r) (by omega) hd)) ?_
        refine st_icmp_ne (q := 40) (tgt := 44) dX0_alikeFrom_37 rfl rfl (fun c_37 => ?_) (fun c_37 => ?_)
        · refine st_iconst (q := 45) dX0_alikeFrom_44 rfl ic_0 ?_
          refine st_istore (q := 47) (L' := [_, _, _, _, _, _, _]) dX0_alikeFrom_45 rfl (Nat.le_of_ble_eq_true rfl) rfl ?_
          refine st_iload (q := 49) dX0_alikeFrom_47 rfl rfl ?_
          refine st_iload (q := 51) dX0_alikeFrom_49 rfl rfl ?_
          refine st_if_eq (q := 54) (tgt := 58) dX0_alikeFrom_51 rfl rfl (fun c_51 => ?_) (fun c_51 => ?_)
          · refine st_iconst (q := 59) dX0_alikeFrom_58 rfl ic_0 ?_
            refine st_iadd (q := 60) dX0_alikeFrom_59 rfl ?_
            refine st_istore (q := 62) (L' := [_, _, _, _, _, _, _]) dX0_alikeFrom_60 rfl (Nat.le_of_ble_eq_true rfl) rfl ?_
            refine st_iinc (q := 65) (L' := [_, _, _, _, _, _, _]) dX0_alikeFrom_62 rfl rfl (nI_succ _).symm (Nat.le_of_ble_eq_true rfl) rfl ?_
            refine st_goto (q := 6) dX0_alikeFrom_65 rfl ?_
            have K := ih (i + 1) (by omega)
            rw [alF] at K
            first
              | exact absurd c_51 (by decide)
              | exact absurd rfl c_51
              | (rw [if_neg (by rw [btI, decide_eq_true c_21]; decide)] at K; exact K _)
              | (rw [if_pos (by rw [btI, decide_eq_false c_21]; rfl), if_pos c_37] at K; exact K _)
              | (rw [if_pos (by rw [btI, decide_eq_false c_21]; rfl), if_neg c_37] at K; exact K _)
          · refine st_iconst (q := 55) dX0_alikeFrom_54 rfl ic_1 ?_
            refine st_goto (q := 59) dX0_alikeFrom_55 rfl ?_
            refine st_iadd (q := 60) dX0_alikeFrom_59 rfl ?_
            refine st_istore (q := 62) (L' := [_, _, _, _, _, _, _]) dX0_alikeFrom_60 rfl (Nat.le_of_ble_eq_true rfl) rfl ?_
            refine st_iinc (q := 65) (L' := [_, _, _, _, _, _, _]) dX0_alikeFrom_62 rfl rfl (nI_succ _).symm (Nat.le_of_ble_eq_true rfl) rfl ?_
            refine st_goto (q := 6) dX0_alikeFrom_65 rfl ?_
            have K := ih (i + 1) (by omega)
            rw [alF] at K
            first
              | exact absurd c_51 (by decide)
              | exact absurd rfl c_51
              | (rw [if_neg (by rw [btI, decide_eq_true c_21]; decide)] at K; exact K _)
              | (rw [if_pos (by rw [btI, decide_eq_false c_21]; rfl), if_pos c_37] at K; exact K _)
              | (rw [if_pos (by rw [btI, decide_eq_false c_21]; rfl), if_neg c_37] at K; exact K _)
        · refine st_iconst (q := 41) dX0_alikeFrom_40 rfl ic_1 ?_
          refine st_goto (q := 45) dX0_alikeFrom_41 rfl ?_
          refine st_istore (q := 47) (L' := [_, _, _, _, _, _, _]) dX0_alikeFrom_45 rfl (Nat.le_of_ble_eq_true rfl) rfl ?_
          refine st_iload (q := 49) dX0_alikeFrom_47 rfl rfl ?_
          refine st_iload (q := 51) dX0_alikeFrom_49 rfl rfl ?_
          refine st_if_eq (q := 54) (tgt := 58) dX0_alikeFrom_51 rfl rfl (fun c_51 => ?_) (fun c_51 => ?_)
          · refine st_iconst (q := 59) dX0_alikeFrom_58 rfl ic_0 ?_
            refine st_iadd (q := 60) dX0_alikeFrom_59 rfl ?_
            refine st_istore (q := 62) (L' := [_, _, _, _, _, _, _]) dX0_alikeFrom_60 rfl (Nat.le_of_ble_eq_true rfl) rfl ?_
            refine st_iinc (q := 65) (L' := [_, _, _, _, _, _, _]) dX0_alikeFrom_62 rfl rfl (nI_succ _).symm (Nat.le_of_ble_eq_true rfl) rfl ?_
            refine st_goto (q := 6) dX0_alikeFrom_65 rfl ?_
            have K := ih (i + 1) (by omega)
            rw [alF] at K
            first
              | exact absurd c_51 (by decide)
              | exact absurd rfl c_51
              | (rw [if_neg (by rw [btI, decide_eq_true c_21]; decide)] at K; exact K _)
              | (rw [if_pos (by rw [btI, decide_eq_false c_21]; rfl), if_pos c_37] at K; exact K _)
              | (rw [if_pos (by rw [btI, decide_eq_false c_21]; rfl), if_neg c_37] at K; exact K _)
          · refine st_iconst (q := 55) dX0_alikeFrom_54 rfl ic_1 ?_
            refine st_goto (q := 59) dX0_alikeFrom_55 rfl ?_
            refine st_iadd (q := 60) dX0_alikeFrom_59 rfl ?_
            refine st_istore (q := 62) (L' := [_, _, _, _, _, _, _]) dX0_alikeFrom_60 rfl (Nat.le_of_ble_eq_true rfl) rfl ?_
            refine st_iinc (q := 65) (L' := [_, _, _, _, _, _, _]) dX0_alikeFrom_62 rfl rfl (nI_succ _).symm (Nat.le_of_ble_eq_true rfl) rfl ?_
            refine st_goto (q := 6) dX0_alikeFrom_65 rfl ?_
            have K := ih (i + 1) (by omega)
            rw [alF] at K
            first
              | exact absurd c_51 (by decide)
              | exact absurd rfl c_51
              | (rw [if_neg (by rw [btI, decide_eq_true c_21]; decide)] at K; exact K _)
              | (rw [if_pos (by rw [btI, decide_eq_false c_21]; rfl), if_pos c_37] at K; exact K _)
              | (rw [if_pos (by rw [btI, decide_eq_false c_21]; rfl), if_neg c_37] at K; exact K _)
  refine st_iconst (q := 1) dX0_alikeFrom_0 rfl ic_0 ?_
  refine st_istore (q := 3) (L' := [_, _, _, _, _, _, _]) dX0_alikeFrom_1 rfl (Nat.le_of_ble_eq_true rfl) rfl ?_
  refine st_iload_n (q := 4) dX0_alikeFrom_3 rfl rfl rfl ?_
  refine st_istore (q := 6) (L' := [_, _, _, _, _, _, _]) dX0_alikeFrom_4 rfl (Nat.le_of_ble_eq_true rfl) rfl ?_
  exact lp (R - r) 0 (by omega) _
set_option maxRecDepth 100000 in
set_option maxHeartbeats 4000000 in
theorem c_X0_leftAtWorst {E : ev_E} {n : Nat} {w : ev_W} {U : gT} {b : Nat} (hU : GF U b n w) {R : Nat} (e1 : U 1 0 = nI R) (hR : R ≤ 31) {op : Int32} {d : Nat} (hd : d < 21) : Ct E mX0_leftAtWorst [.ref b, .int op, .int (nI d)] n w (ev_is (some (.int (lwF U op d R R))) n w) := by
  refine Ct.of 2 (by decide) (Nat.le_of_ble_eq_true rfl) rfl ?_
  have lp : ∀ (k i : Nat), i + k = R → Ev E mX0_leftAtWorst 5 [some (.ref b), some (.int op), some (.int (nI d)), some (.int (lwF U op d R i)), some (.int (nI i))] [] n w (0, 0) (ev_is (some (.int (lwF U op d R R))) n w) := by
    intro k
    induction k with
    | zero =>
      intro i hi
      obtain rfl : i = R := hi
      refine st_iload (q := 7) dX0_leftAtWorst_5 rfl rfl ?_
      refine st_aload_n (q := 8) dX0_leftAtWorst_7 rfl rfl rfl ?_
      refine g_get (q := 11) dX0_leftAtWorst_8 rfl fl_X0_15.g hU rfl ?_
      refine st_icmp_ge (q := 14) (tgt := 33) dX0_leftAtWorst_11 rfl rfl (fun c_11 => ?_) (fun c_11 => False.elim (c_11 (by rw [e1]; exact nI_le (by omega) (by omega))))
      refine st_iload_n (q := 34) dX0_leftAtWorst_33 rfl rfl rfl ?_
      refine st_ireturn dX0_leftAtWorst_34 rfl ?_
      exact ⟨rfl, rfl, rfl⟩
    | succ k ih =>
      intro i hi
      refine st_iload (q := 7) dX0_leftAtWorst_5 rfl rfl ?_
      refine st_aload_n (q := 8) dX0_leftAtWorst_7 rfl rfl rfl ?_
      refine g_get (q := 11) dX0_leftAtWorst_8 rfl fl_X0_15.g hU rfl ?_
      refine st_icmp_ge (q := 14) (tgt := 33) dX0_leftAtWorst_11 rfl rfl (fun c_11 => False.elim (absurd (by rw [← e1]; exact c_11) (nI_ge (a := i) (b := R) (by omega) (by omega)))) (fun c_11 => ?_)
      refine st_iload_n (q := 15) dX0_leftAtWorst_14 rfl rfl rfl ?_
      refine st_aload_n (q := 16) dX0_leftAtWorst_15 rfl rfl rfl ?_
      refine st_iload (q := 18) dX0_leftAtWorst_16 rfl rfl ?_
      refine st_iload_n (q := 19) dX0_leftAtWorst_18 rfl rfl rfl ?_
      refine st_iload_n (q := 20) dX0_leftAtWorst_19 rfl rfl rfl ?_
      refine sp_V3 (q := 23) (M' := mX0_alikeFrom) dX0_leftAtWorst_20 rfl ok_X0_alikeFrom mk_X0_alikeFrom ml_X0_35 ⟨Nat.le_of_ble_eq_true rfl, Nat.le_of_ble_eq_true rfl⟩ rfl (Nat.le_of_ble_eq_true rfl) (g_rv hU rfl) ⟨rfl, rfl⟩ (c_X0_alikeFrom hU e1 hR (r := i) (by omega) hd) ?_
      refine st_mmax (q := 26) dX0_leftAtWorst_23 rfl ml_X0_39 jm_max_s jm_i jm_max_c (Nat.le_of_ble_eq_true rfl) (Nat.le_of_ble_eq_true rfl) (Nat.le_of_ble_eq_true rfl) ?_
      refine st_istore_n (q := 27) (L' := [_, _, _, _, _]) dX0_leftAtWorst_26 rfl rfl (Nat.le_of_ble_eq_true rfl) rfl ?_
      refine st_iinc (q := 30) (L' := [_, _, _, _, _]) dX0_leftAtWorst_27 rfl rfl (nI_succ _).symm (Nat.le_of_ble_eq_true rfl) rfl ?_
      refine st_goto (q := 5) dX0_leftAtWorst_30 rfl ?_
      exact ih (i + 1) (by omega)
  refine st_iconst (q := 1) dX0_leftAtWorst_0 rfl ic_0 ?_
  refine st_istore_n (q := 2) (L' := [_, _, _, _, _]) dX0_leftAtWorst_1 rfl rfl (Nat.le_of_ble_eq_true rfl) rfl ?_
  refine st_iconst (q := 3) dX0_leftAtWorst_2 rfl ic_0 ?_
  refine st_istore (q := 5) (L' := [_, _, _, _, _]) dX0_leftAtWorst_3 rfl (Nat.le_of_ble_eq_true rfl) rfl ?_
  exact lp R 0 (by omega)
def Fr2 (a b c d : Nat) (w w' : ev_W) : Prop := ∀ k, (k < a ∨ b ≤ k) → (k < c ∨ d ≤ k) → w' k = w k
theorem Fr2.rf {a b c d : Nat} {w : ev_W} : Fr2 a b c d w w := fun _ _ _ => rfl
theorem Fr2.l {a b c d : Nat} {w w' w'' : ev_W} (h : Fr2 a b c d w w') (h' : Fr a b w' w'') : Fr2 a b c d w w'' := fun k h1 h2 => (h' k h1).trans (h k h1 h2)
theorem Fr2.r {a b c d : Nat} {w w' w'' : ev_W} (h : Fr2 a b c d w w') (h' : Fr c d w' w'') : Fr2 a b c d w w'' := fun k h1 h2 => (h' k h2).trans (h k h1 h2)
set_option maxRecDepth 100000 in
set_option maxHeartbeats 4000000 in
theorem c_X0_addRow {E : ev_E} {n : Nat} {w : ev_W} {U : gT} {b : Nat} (hU : GF U b n w) {R : Nat} (e1 : U 1 0 = nI R) (hR : R < 31) {T : gT} {c : Nat} (hT : TR T c n w) (hdis : b + 1 < c ∨ c + 9 < b) {nt : Nat} (e6 : T 6 0 = nI nt) (hnt : nt ≤ 8) {nh : Nat} (e0 : T 0 0 = nI nh) (hnh : nh ≤ 4) {dd : Nat} (ed : T 16 0 = nI dd) (hdd : dd + 21 < 2 ^ 31) {la : Nat} (hla : la ≤ 20) : Ct E mX0_addRow [.ref b, .ref c, .int (nI la)] n w (fun a m u => a = none ∧ m = n ∧ GF (tup (faU U T dd nh nt R (la + 1)) 1 0 (nI R + 1)) b n u ∧ TR (dysT T dd nh nt (la + 1)) c n u ∧ Fr2 b (b + 2) c (c + 10) w u) := by
  refine Ct.of 1 (by decide) (Nat.le_of_ble_eq_true rfl) rfl ?_
  have hF : Fr2 b (b + 2) c (c + 10) w w := Fr2.rf
  have lp : ∀ (k i : Nat), i + k = la + 1 → ∀ (w1 : ev_W), GF (faU U T dd nh nt R i) b n w1 → TR (dysT T dd nh nt i) c n w1 → Fr2 b (b + 2) c (c + 10) w w1 → Ev E mX0_addRow 12 [some (.ref b), some (.ref c), some (.int (nI la)), some (.int (nI i))] [] n w1 (0, 0) (fun a m u => a = none ∧ m = n ∧ GF (tup (faU U T dd nh nt R (la + 1)) 1 0 (nI R + 1)) b n u ∧ TR (dysT T dd nh nt (la + 1)) c n u ∧ Fr2 b (b + 2) c (c + 10) w u) := by
    clear hF hT hU
    intro k
    induction k with
    | zero =>
      intro i hi w hU hT hF
      obtain rfl : i = la + 1 := hi
      refine st_iload_n (q := 13) dX0_addRow_12 rfl rfl rfl ?_
      refine st_iload_n (q := 14) dX0_addRow_13 rfl rfl rfl ?_
      refine st_icmp_gt (q := 17) (tgt := 59) dX0_addRow_14 rfl rfl (fun c_14 => ?_) (fun c_14 => False.elim (c_14 (nI_lt (by omega) (by omega))))
      refine st_aload_n (q := 60) dX0_addRow_59 rfl rfl rfl ?_
      refine st_dup (q := 61) dX0_addRow_60 rfl rfl ?_
      refine g_get (q := 64) dX0_addRow_61 rfl fl_X0_15.g hU rfl ?_
      refine st_iconst (q := 65) dX0_addRow_64 rfl ic_1 ?_
      refine st_iadd (q := 66) dX0_addRow_65 rfl ?_
      refine g_put (q := 69) dX0_addRow_66 rfl fl_X0_15 gkX0 hU rfl rfl rfl (fun w hU hF_ => ?_)
      replace hT := GR.fr gkX5 hT (fun k h1 h2 => hF_ k (by omega))
      replace hF := Fr2.l hF hF_
      refine st_return dX0_addRow_69 rfl ?_
      rw [faU_1, e1] at hU
      exact ⟨rfl, rfl, hU, hT, hF⟩
    | succ k ih =>
      intro i hi w hU hT hF
      refine st_iload_n (q := 13) dX0_addRow_12 rfl rfl rfl ?_
      refine st_iload_n (q := 14) dX0_addRow_13 rfl rfl rfl ?_
      refine st_icmp_gt (q := 17) (tgt := 59) dX0_addRow_14 rfl rfl (fun c_14 => False.elim (absurd c_14 (nI_nlt (by omega) (by omega)))) (fun c_14 => ?_)
      refine st_iload_n (q := 18) dX0_addRow_17 rfl rfl rfl ?_
      refine st_bipush (q := 20) dX0_addRow_18 rfl bp_21 ?_
      refine st_icmp_ge (q := 23) (tgt := 59) dX0_addRow_20 rfl rfl (fun c_20 => False.elim (absurd c_20 (nI_ge (a := i) (b := 21) (by omega) (by omega)))) (fun c_20 => ?_)
      refine st_aload_n (q := 24) dX0_addRow_23 rfl rfl rfl ?_
      refine g_getA (q := 27) dX0_addRow_24 rfl fl_X0_11.g hU rfl ?_
      refine st_aload_n (q := 28) dX0_addRow_27 rfl rfl rfl ?_
      refine g_get (q := 31) dX0_addRow_28 rfl fl_X0_15.g hU rfl ?_
      refine st_bipush (q := 33) dX0_addRow_31 rfl bp_21 ?_
      refine st_imul (q := 34) dX0_addRow_33 rfl ?_
      refine st_iload_n (q := 35) dX0_addRow_34 rfl rfl rfl ?_
      refine st_iadd (q := 36) dX0_addRow_35 rfl ?_
      refine st_aload_n (q := 37) dX0_addRow_36 rfl rfl rfl ?_
      refine g_get (q := 40) dX0_addRow_37 rfl fl_X0_19.g hT rfl ?_
      refine g_iast (q := 41) dX0_addRow_40 rfl gkX0 hU (i := 0) rfl (by rw [faU_1, e1]; exact ix21 (by omega) (by omega)) (fun w hU hF_ => ?_)
      replace hT := GR.fr gkX5 hT (fun k h1 h2 => hF_ k (by omega))
      replace hF := Fr2.l hF hF_
      refine st_aload_n (q := 42) dX0_addRow_41 rfl rfl rfl ?_
      refine st_aload_n (q := 43) dX0_addRow_42 rfl rfl rfl ?_
      refine sp_V0 (q := 46) (M' := mX5_riseToday) dX0_addRow_43 rfl ok_X5_riseToday mk_X5_riseToday ml_X0_24 ⟨Nat.le_of_ble_eq_true rfl, Nat.le_of_ble_eq_true rfl⟩ rfl (Nat.le_of_ble_eq_true rfl) (g_rv hT rfl) ⟨rfl, rfl⟩ (c_X5_riseToday hT (dysT_16 ed i) (by omega)) ?_
      refine st_aload_n (q := 47) dX0_addRow_46 rfl rfl rfl ?_
      refine g_get (q := 50) dX0_addRow_47 rfl fl_X0_28.g hT rfl ?_
      refine sm_V2 (q := 53) (M' := mX5_passDay) dX0_addRow_50 rfl ok_X5_passDay mk_X5_passDay ml_X0_31 ⟨Nat.le_of_ble_eq_true rfl, Nat.le_of_ble_eq_true rfl⟩ rfl (Nat.le_of_ble_eq_true rfl) (g_rv hT rfl) ⟨rfl, rfl⟩ (c_X5_passDay hT (by rw [dysT_6]; exact e6) hnt (by rw [dysT_0]; exact e0) hnh) ?_
      intro _ _ w h9 _
      obtain ⟨rfl, rfl, hT, hF_⟩ := h9
      replace hU := GR.fr gkX0 hU (fun k h1 h2 => hF_ k (by omega))
      replace hF := Fr2.r hF hF_
      refine st_iinc (q := 56) (L' := [_, _, _, _]) dX0_addRow_53 rfl rfl (nI_succ _).symm (Nat.le_of_ble_eq_true rfl) rfl ?_
      refine st_goto (q := 12) dX0_addRow_56 rfl ?_
      exact ih (i + 1) (by omega) w hU hT hF
  refine st_aload_n (q := 1) dX0_addRow_0 rfl rfl rfl ?_
  refine g_get (q := 4) dX0_addRow_1 rfl fl_X0_15.g hU rfl ?_
  refine st_bipush (q := 6) dX0_addRow_4 rfl bp_31 ?_
  refine st_icmp_lt (q := 9) (tgt := 10) dX0_addRow_6 rfl rfl (fun c_6 => ?_) (fun c_6 => False.elim (c_6 (by rw [e1]; exact nI_lt (b := 31) (by omega) (by decide))))
  refine st_iconst (q := 11) dX0_addRow_10 rfl ic_0 ?_
  refine st_istore_n (q := 12) (L' := [_, _, _, _]) dX0_addRow_11 rfl rfl (Nat.le_of_ble_eq_true rfl) rfl ?_
  exact lp (la + 1) 0 (by omega) w hU hT hF
def bcI (x : Int32) : Int32 :=
  let a := x - ((x.toUInt32 >>> ((1 : Int32).toUInt32 &&& Int32.toUInt32 31)).toInt32 &&& 1431655765)
  let b := (a &&& 858993459) + ((a.toUInt32 >>> ((2 : Int32).toUInt32 &&& Int32.toUInt32 31)).toInt32 &&& 858993459)
  let c := (b + (b.toUInt32 >>> ((4 : Int32).toUInt32 &&& Int32.toUInt32 31)).toInt32) &&& 252645135
  let d := c + (c.toUInt32 >>> ((8 : Int32).toUInt32 &&& Int32.toUInt32 31)).toInt32
  let e := d + (d.toUInt32 >>> ((16 : Int32).toUInt32 &&& Int32.toUInt32 31)).toInt32
  e &&& 63
set_option maxRecDepth 100000 in
set_option maxHeartbeats 4000000 in
theorem c_J6_bitCount_0f7a4 {E : ev_E} {n : Nat} {w : ev_W} {x : Int32} : Ct E mJ6_bitCount_0f7a4 [.int x] n w (ev_is (some (.int (bcI x))) n w) := by
  refine Ct.of 0 (by decide) (Nat.le_of_ble_eq_true rfl) rfl ?_
  refine st_iload_n (q := 1) dJ6_bitCount_0f7a4_0 rfl rfl rfl ?_
  refine st_iload_n (q := 2) dJ6_bitCount_0f7a4_1 rfl rfl rfl ?_
  refine st_iconst (q := 3) dJ6_bitCount_0f7a4_2 rfl ic_1 ?_
  refine st_iushr (q := 4) dJ6_bitCount_0f7a4_3 rfl ?_
  refine st_ldcw (q := 7) dJ6_bitCount_0f7a4_4 rfl cn_J6_265 ?_
  refine st_iand (q := 8) dJ6_bitCount_0f7a4_7 rfl ?_
  refine st_isub (q := 9) dJ6_bitCount_0f7a4_8 rfl ?_
  refine st_istore_n (q := 10) (L' := [_]) dJ6_bitCount_0f7a4_9 rfl rfl (Nat.le_of_ble_eq_true rfl) rfl ?_
  refine st_iload_n (q := 11) dJ6_bitCount_0f7a4_10 rfl rfl rfl ?_
  refine st_ldcw (q := 14) dJ6_bitCount_0f7a4_11 rfl cn_J6_266 ?_
  refine st_iand (q := 15) dJ6_bitCount_0f7a4_14 rfl ?_
  refine st_iload_n (q := 16) dJ6_bitCount_0f7a4_15 rfl rfl rfl ?_
  refine st_iconst (q := 17) dJ6_bitCount_0f7a4_16 rfl ic_2 ?_
  refine st_iushr (q := 18) dJ6_bitCount_0f7a4_17 rfl ?_
  refine st_ldcw (q := 21) dJ6_bitCount_0f7a4_18 rfl cn_J6_266 ?_
  refine st_iand (q := 22) dJ6_bitCount_0f7a4_21 rfl ?_
  refine st_iadd (q := 23) dJ6_bitCount_0f7a4_22 rfl ?_
  refine st_istore_n (q := 24) (L' := [_]) dJ6_bitCount_0f7a4_23 rfl rfl (Nat.le_of_ble_eq_true rfl) rfl ?_
  refine st_iload_n (q := 25) dJ6_bitCount_0f7a4_24 rfl rfl rfl ?_
  refine st_iload_n (q := 26) dJ6_bitCount_0f7a4_25 rfl rfl rfl ?_
  refine st_iconst (q := 27) dJ6_bitCount_0f7a4_26 rfl ic_4 ?_
  refine st_iushr (q := 28) dJ6_bitCount_0f7a4_27 rfl ?_
  refine st_iadd (q := 29) dJ6_bitCount_0f7a4_28 rfl ?_
  refine st_ldcw (q := 32) dJ6_bitCount_0f7a4_29 rfl cn_J6_267 ?_
  refine st_iand (q := 33) dJ6_bitCount_0f7a4_32 rfl ?_
  refine st_istore_n (q := 34) (L' := [_]) dJ6_bitCount_0f7a4_33 rfl rfl (Nat.le_of_ble_eq_true rfl) rfl ?_
  refine st_iload_n (q := 35) dJ6_bitCount_0f7a4_34 rfl rfl rfl ?_
  refine st_iload_n (q := 36) dJ6_bitCount_0f7a4_35 rfl rfl rfl ?_
  refine st_bipush (q := 38) dJ6_bitCount_0f7a4_36 rfl bp_8 ?_
  refine st_iushr (q := 39) dJ6_bitCount_0f7a4_38 rfl ?_
  refine st_iadd (q := 40) dJ6_bitCount_0f7a4_39 rfl ?_
  refine st_istore_n (q := 41) (L' := [_]) dJ6_bitCount_0f7a4_40 rfl rfl (Nat.le_of_ble_eq_true rfl) rfl ?_
  refine st_iload_n (q := 42) dJ6_bitCount_0f7a4_41 rfl rfl rfl ?_
  refine st_iload_n (q := 43) dJ6_bitCount_0f7a4_42 rfl rfl rfl ?_
  refine st_bipush (q := 45) dJ6_bitCount_0f7a4_43 rfl bp_16 ?_
  refine st_iushr (q := 46) dJ6_bitCount_0f7a4_45 rfl ?_
  refine st_iadd (q := 47) dJ6_bitCount_0f7a4_46 rfl ?_
  refine st_istore_n (q := 48) (L' := [_]) dJ6_bitCount_0f7a4_47 rfl rfl (Nat.le_of_ble_eq_true rfl) rfl ?_
  refine st_iload_n (q := 49) dJ6_bitCount_0f7a4_48 rfl rfl rfl ?_
  refine st_bipush (q := 51) dJ6_bitCount_0f7a4_49 rfl bp_63 ?_
  refine st_iand (q := 52) dJ6_bitCount_0f7a4_51 rfl ?_
  refine st_ireturn dJ6_bitCount_0f7a4_52 rfl ?_
  exact ⟨rfl, rfl, rfl⟩
