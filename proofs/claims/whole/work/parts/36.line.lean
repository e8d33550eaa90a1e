def tlT (D : gT) (nh nt wd : Nat) (x y z : Int32) : gT := if wd = 4 then ahT D nh x y z else if wd = 5 then tup D 13 x.toNatClampNeg y else if wd = 6 then tup D 14 0 x else if wd = 7 then tup D 15 0 x else atT D nt (nI wd) x y z
def DKp (D : gT) (nh nt : Nat) : Prop := D 0 0 = nI nh ∧ nh ≤ 4 ∧ D 6 0 = nI nt ∧ nt ≤ 8
def LR (R R' : gT) (wd : Nat) : Prop := R' 7 0 = (if wd = 6 then 1 else R 7 0) ∧ R' 8 0 = (if wd = 7 then 1 else R 8 0) ∧ R' 9 0 = (if wd = 5 then R 9 0 ||| 1 <<< (R 2 0 &&& 31) else R 9 0) ∧ ∀ g, g ≠ 7 → g ≠ 8 → g ≠ 9 → R' g = R g
theorem LR.rf {R : gT} {wd : Nat} (h5 : wd ≠ 5) (h6 : wd ≠ 6) (h7 : wd ≠ 7) : LR R R wd := ⟨(if_neg h6).symm, (if_neg h7).symm, (if_neg h5).symm, fun _ _ _ _ => rfl⟩
set_option maxRecDepth 100000 in
set_option maxHeartbeats 4000000 in
theorem c_X1_tellLine {E : ev_E} {n : Nat} {w : ev_W} {R : gT} (hR : RR R n w) {D : gT} (hQ : TR D 45 n w) {nh nt wd jx : Nat} (hD : DKp D nh nt) (hwd : wd < 8) (h4 : wd = 4 → nh < 4) (h8 : wd < 4 → nt < 8) (hix : wd = 5 → ev_ix (R 2 0) 7 jx) : Ct E mX1_tellLine [.ref 42, .int (nI wd)] n w (fun a m u => a = none ∧ m = n ∧ (∃ R', RR R' n u ∧ LR R R' wd) ∧ TR (tlT D nh nt wd (R 2 0) (R 2 1) (R 2 2)) 45 n u ∧ FrW w u) := by
  refine Ct.of 0 (by decide) (Nat.le_of_ble_eq_true rfl) rfl ?_
  have hF : FrW w w := FrW.rf
  have hxc : wd = 5 → (R 2 0).toNatClampNeg = jx := fun z => (hix z).2
  refine st_iload_n (q := 1) dX1_tellLine_0 rfl rfl rfl ?_
  refine st_tabK 0 (v := 4) (tgt := 32) dX1_tellLine_1 rfl rfl (by decide) (by decide) (fun c_1_0 => ?_) (fun c_1_0 t_1_0 => ?_)
  · refine st_aload_n (q := 33) dX1_tellLine_32 rfl rfl rfl ?_
    refine g_getO (q := 36) dX1_tellLine_33 rfl fl_X1_21.g hR rfl ?_
    refine st_aload_n (q := 37) dX1_tellLine_36 rfl rfl rfl ?_
    refine g_getA (q := 40) dX1_tellLine_37 rfl fl_X1_25.g hR rfl ?_
    refine st_iconst (q := 41) dX1_tellLine_40 rfl ic_0 ?_
    refine g_iald (q := 42) dX1_tellLine_41 rfl gkX1 hR (i := 2) rfl (by exact ev_ix_nI (j := 0) (by decide) (by decide)) ?_
    refine st_aload_n (q := 43) dX1_tellLine_42 rfl rfl rfl ?_
    refine g_getA (q := 46) dX1_tellLine_43 rfl fl_X1_25.g hR rfl ?_
    refine st_iconst (q := 47) dX1_tellLine_46 rfl ic_1 ?_
    refine g_iald (q := 48) dX1_tellLine_47 rfl gkX1 hR (i := 2) rfl (by exact ev_ix_nI (j := 1) (by decide) (by decide)) ?_
    refine st_aload_n (q := 49) dX1_tellLine_48 rfl rfl rfl ?_
    refine g_getA (q := 52) dX1_tellLine_49 rfl fl_X1_25.g hR rfl ?_
    refine st_iconst (q := 53) dX1_tellLine_52 rfl ic_2 ?_
    refine g_iald (q := 54) dX1_tellLine_53 rfl gkX1 hR (i := 2) rfl (by exact ev_ix_nI (j := 2) (by decide) (by decide)) ?_
    refine sm_V3 (q := 57) (M' := mX5_addHouse) dX1_tellLine_54 rfl ok_X5_addHouse mk_X5_addHouse ml_X1_128 ⟨Nat.le_of_ble_eq_true rfl, Nat.le_of_ble_eq_true rfl⟩ rfl (Nat.le_of_ble_eq_true rfl) (g_rv hQ rfl) ⟨rfl, rfl⟩ (c_X5_addHouse hQ hD.1 (h4 (nI_ij (by omega) (by decide) c_1_0))) ?_
    intro _ n w h9 _
    obtain ⟨rfl, rfl, hQ, hF_⟩ := h9
    replace hR := RR.fr hR (hF_ 42 (by omega)) (hF_ 55 (by omega))
    replace hF := FrW.r hF hF_
    refine st_goto (q := 168) dX1_tellLine_57 rfl ?_
    refine st_return dX1_tellLine_168 rfl ?_
    first
      | (obtain rfl : wd = 4 := nI_ij (by omega) (by decide) c_1_0; exact ⟨rfl, rfl, ⟨_, hR, LR.rf (by decide) (by decide) (by decide)⟩, hQ, hF⟩)
      | (obtain rfl : wd = 5 := nI_ij (by omega) (by decide) c_1_1; exact ⟨rfl, rfl, ⟨_, hR, rfl, rfl, rfl, fun g g7 g8 g9 => tup_n g9⟩, by rw [show tlT D nh nt 5 (R 2 0) (R 2 1) (R 2 2) = tup D 13 (R 2 0).toNatClampNeg (R 2 1) from rfl, hxc rfl]; exact hQ, hF⟩)
      | (obtain rfl : wd = 6 := nI_ij (by omega) (by decide) c_1_2; exact ⟨rfl, rfl, ⟨_, hR, rfl, rfl, rfl, fun g g7 g8 g9 => tup_n g7⟩, hQ, hF⟩)
      | (obtain rfl : wd = 7 := nI_ij (by omega) (by decide) c_1_3; exact ⟨rfl, rfl, ⟨_, hR, rfl, rfl, rfl, fun g g7 g8 g9 => tup_n g8⟩, hQ, hF⟩)
      | (exact ⟨rfl, rfl, ⟨_, hR, LR.rf n5 n6 n7⟩, by rw [tlT, if_neg n4, if_neg n5, if_neg n6, if_neg n7]; exact hQ, hF⟩)
  refine st_tabK 1 (v := 5) (tgt := 60) dX1_tellLine_1 rfl rfl (by decide) (by decide) (fun c_1_1 => ?_) (fun c_1_1 t_1_1 => ?_)
  · refine st_aload_n (q := 61) dX1_tellLine_60 rfl rfl rfl ?_
    refine g_getO (q := 64) dX1_tellLine_61 rfl fl_X1_21.g hR rfl ?_
    refine g_getA (q := 67) dX1_tellLine_64 rfl fl_X1_132 hQ rfl ?_
    refine st_aload_n (q := 68) dX1_tellLine_67 rfl rfl rfl ?_
    refine g_getA (q := 71) dX1_tellLine_68 rfl fl_X1_25.g hR rfl ?_
    refine st_iconst (q := 72) dX1_tellLine_71 rfl ic_0 ?_
    refine g_iald (q := 73) dX1_tellLine_72 rfl gkX1 hR (i := 2) rfl (by exact ev_ix_nI (j := 0) (by decide) (by decide)) ?_
    refine st_aload_n (q := 74) dX1_tellLine_73 rfl rfl rfl ?_
    refine g_getA (q := 77) dX1_tellLine_74 rfl fl_X1_25.g hR rfl ?_
    refine st_iconst (q := 78) dX1_tellLine_77 rfl ic_1 ?_
    refine g_iald (q := 79) dX1_tellLine_78 rfl gkX1 hR (i := 2) rfl (by exact ev_ix_nI (j := 1) (by decide) (by decide)) ?_
    refine g_iast (q := 80) dX1_tellLine_79 rfl gkX5 hQ (i := 13) rfl (by exact (show ev_ix (R 2 0) 7 jx from hix (nI_ij (by omega) (by decide) c_1_1))) (fun w hQ hF_ => ?_)
    replace hR := RR.fr hR (hF_ 42 (by omega)) (hF_ 55 (by omega))
    replace hF := FrW.r hF hF_
    refine st_aload_n (q := 81) dX1_tellLine_80 rfl rfl rfl ?_
    refine st_dup (q := 82) dX1_tellLine_81 rfl rfl ?_
    refine g_get (q := 85) dX1_tellLine_82 rfl fl_X1_43.g hR rfl ?_
    refine st_iconst (q := 86) dX1_tellLine_85 rfl ic_1 ?_
    refine st_aload_n (q := 87) dX1_tellLine_86 rfl rfl rfl ?_
    refine g_getA (q := 90) dX1_tellLine_87 rfl fl_X1_25.g hR rfl ?_
    refine st_iconst (q := 91) dX1_tellLine_90 rfl ic_0 ?_
    refine g_iald (q := 92) dX1_tellLine_91 rfl gkX1 hR (i := 2) rfl (by exact ev_ix_nI (j := 0) (by decide) (by decide)) ?_
    refine st_ishl (q := 93) dX1_tellLine_92 rfl ?_
    refine st_ior (q := 94) dX1_tellLine_93 rfl ?_
    refine r_put (q := 97) dX1_tellLine_94 rfl fl_X1_43 hR rfl rfl rfl (fun w hR hF_ => ?_)
    replace hQ := GR.fr gkX5 hQ (fun k h1 h2 => hF_ k (by omega) (by omega))
    replace hF := FrW.l hF hF_
    refine st_goto (q := 168) dX1_tellLine_97 rfl ?_
    refine st_return dX1_tellLine_168 rfl ?_
    first
      | (obtain rfl : wd = 4 := nI_ij (by omega) (by decide) c_1_0; exact ⟨rfl, rfl, ⟨_, hR, LR.rf (by decide) (by decide) (by decide)⟩, hQ, hF⟩)
      | (obtain rfl : wd = 5 := nI_ij (by omega) (by decide) c_1_1; exact ⟨rfl, rfl, ⟨_, hR, rfl, rfl, rfl, fun g g7 g8 g9 => tup_n g9⟩, by rw [show tlT D nh nt 5 (R 2 0) (R 2 1) (R 2 2) = tup D 13 (R 2 0).toNatClampNeg (R 2 1) from rfl, hxc rfl]; exact hQ, hF⟩)
      | (obtain rfl : wd = 6 := nI_ij (by omega) (by decide) c_1_2; exact ⟨rfl, rfl, ⟨_, hR, rfl, rfl, rfl, fun g g7 g8 g9 => tup_n g7⟩, hQ, hF⟩)
      | (obtain rfl : wd = 7 := nI_ij (by omega) (by decide) c_1_3; exact ⟨rfl, rfl, ⟨_, hR, rfl, rfl, rfl, fun g g7 g8 g9 => tup_n g8⟩, hQ, hF⟩)
      | (exact ⟨rfl, rfl, ⟨_, hR, LR.rf n5 n6 n7⟩, by rw [tlT, if_neg n4, if_neg n5, if_neg n6, if_neg n7]; exact hQ, hF⟩)
  refine st_tabK 2 (v := 6) (tgt := 100) dX1_tellLine_1 rfl rfl (by decide) (by decide) (fun c_1_2 => ?_) (fun c_1_2 t_1_2 => ?_)
  · refine st_aload_n (q := 101) dX1_tellLine_100 rfl rfl rfl ?_
    refine g_getO (q := 104) dX1_tellLine_101 rfl fl_X1_21.g hR rfl ?_
    refine st_aload_n (q := 105) dX1_tellLine_104 rfl rfl rfl ?_
    refine g_getA (q := 108) dX1_tellLine_105 rfl fl_X1_25.g hR rfl ?_
    refine st_iconst (q := 109) dX1_tellLine_108 rfl ic_0 ?_
    refine g_iald (q := 110) dX1_tellLine_109 rfl gkX1 hR (i := 2) rfl (by exact ev_ix_nI (j := 0) (by decide) (by decide)) ?_
    refine g_put (q := 113) dX1_tellLine_110 rfl fl_X1_135 gkX5 hQ rfl rfl rfl (fun w hQ hF_ => ?_)
    replace hR := RR.fr hR (hF_ 42 (by omega)) (hF_ 55 (by omega))
    replace hF := FrW.r hF hF_
    refine st_aload_n (q := 114) dX1_tellLine_113 rfl rfl rfl ?_
    refine st_iconst (q := 115) dX1_tellLine_114 rfl ic_1 ?_
    refine r_put (q := 118) dX1_tellLine_115 rfl fl_X1_36 hR rfl (by decide) (by decide) (fun w hR hF_ => ?_)
    replace hQ := GR.fr gkX5 hQ (fun k h1 h2 => hF_ k (by omega) (by omega))
    replace hF := FrW.l hF hF_
    refine st_goto (q := 168) dX1_tellLine_118 rfl ?_
    refine st_return dX1_tellLine_168 rfl ?_
    first
      | (obtain rfl : wd = 4 := nI_ij (by omega) (by decide) c_1_0; exact ⟨rfl, rfl, ⟨_, hR, LR.rf (by decide) (by decide) (by decide)⟩, hQ, hF⟩)
      | (obtain rfl : wd = 5 := nI_ij (by omega) (by decide) c_1_1; exact ⟨rfl, rfl, ⟨_, hR, rfl, rfl, rfl, fun g g7 g8 g9 => tup_n g9⟩, by rw [show tlT D nh nt 5 (R 2 0) (R 2 1) (R 2 2) = tup D 13 (R 2 0).toNatClampNeg (R 2 1) from rfl, hxc rfl]; exact hQ, hF⟩)
      | (obtain rfl : wd = 6 := nI_ij (by omega) (by decide) c_1_2; exact ⟨rfl, rfl, ⟨_, hR, rfl, rfl, rfl, fun g g7 g8 g9 => tup_n g7⟩, hQ, hF⟩)
      | (obtain rfl : wd = 7 := nI_ij (by omega) (by decide) c_1_3; exact ⟨rfl, rfl, ⟨_, hR, rfl, rfl, rfl, fun g g7 g8 g9 => tup_n g8⟩, hQ, hF⟩)
      | (exact ⟨rfl, rfl, ⟨_, hR, LR.rf n5 n6 n7⟩, by rw [tlT, if_neg n4, if_neg n5, if_neg n6, if_neg n7]; exact hQ, hF⟩)
  refine st_tabK 3 (v := 7) (tgt := 121) dX1_tellLine_1 rfl rfl (by decide) (by decide) (fun c_1_3 => ?_) (fun c_1_3 t_1_3 => ?_)
  · refine st_aload_n (q := 122) dX1_tellLine_121 rfl rfl rfl ?_
    refine g_getO (q := 125) dX1_tellLine_122 rfl fl_X1_21.g hR rfl ?_
    refine st_aload_n (q := 126) dX1_tellLine_125 rfl rfl rfl ?_
    refine g_getA (q := 129) dX1_tellLine_126 rfl fl_X1_25.g hR rfl ?_
    refine st_iconst (q := 130) dX1_tellLine_129 rfl ic_0 ?_
    refine g_iald (q := 131) dX1_tellLine_130 rfl gkX1 hR (i := 2) rfl (by exact ev_ix_nI (j := 0) (by decide) (by decide)) ?_
    refine g_put (q := 134) dX1_tellLine_131 rfl fl_X1_138 gkX5 hQ rfl rfl rfl (fun w hQ hF_ => ?_)
    replace hR := RR.fr hR (hF_ 42 (by omega)) (hF_ 55 (by omega))
    replace hF := FrW.r hF hF_
    refine st_aload_n (q := 135) dX1_tellLine_134 rfl rfl rfl ?_
    refine st_iconst (q := 136) dX1_tellLine_135 rfl ic_1 ?_
    refine r_put (q := 139) dX1_tellLine_136 rfl fl_X1_40 hR rfl (by decide) (by decide) (fun w hR hF_ => ?_)
    replace hQ := GR.fr gkX5 hQ (fun k h1 h2 => hF_ k (by omega) (by omega))
    replace hF := FrW.l hF hF_
    refine st_goto (q := 168) dX1_tellLine_139 rfl ?_
    refine st_return dX1_tellLine_168 rfl ?_
    first
      | (obtain rfl : wd = 4 := nI_ij (by omega) (by decide) c_1_0; exact ⟨rfl, rfl, ⟨_, hR, LR.rf (by decide) (by decide) (by decide)⟩, hQ, hF⟩)
      | (obtain rfl : wd = 5 := nI_ij (by omega) (by decide) c_1_1; exact ⟨rfl, rfl, ⟨_, hR, rfl, rfl, rfl, fun g g7 g8 g9 => tup_n g9⟩, by rw [show tlT D nh nt 5 (R 2 0) (R 2 1) (R 2 2) = tup D 13 (R 2 0).toNatClampNeg (R 2 1) from rfl, hxc rfl]; exact hQ, hF⟩)
      | (obtain rfl : wd = 6 := nI_ij (by omega) (by decide) c_1_2; exact ⟨rfl, rfl, ⟨_, hR, rfl, rfl, rfl, fun g g7 g8 g9 => tup_n g7⟩, hQ, hF⟩)
      | (obtain rfl : wd = 7 := nI_ij (by omega) (by decide) c_1_3; exact ⟨rfl, rfl, ⟨_, hR, rfl, rfl, rfl, fun g g7 g8 g9 => tup_n g8⟩, hQ, hF⟩)
      | (exact ⟨rfl, rfl, ⟨_, hR, LR.rf n5 n6 n7⟩, by rw [tlT, if_neg n4, if_neg n5, if_neg n6, if_neg n7]; exact hQ, hF⟩)
  refine st_tableOut (tgt := 142) dX1_tellLine_1 (by omega) rfl ?_
  have n4 : wd ≠ 4 := fun z => c_1_0 (by rw [z]; rfl)
  have n5 : wd ≠ 5 := fun z => c_1_1 (by rw [z]; rfl)
  have n6 : wd ≠ 6 := fun z => c_1_2 (by rw [z]; rfl)
  have n7 : wd ≠ 7 := fun z => c_1_3 (by rw [z]; rfl)
  refine st_aload_n (q := 143) dX1_tellLine_142 rfl rfl rfl ?_
  refine g_getO (q := 146) dX1_tellLine_143 rfl fl_X1_21.g hR rfl ?_
  refine st_iload_n (q := 147) dX1_tellLine_146 rfl rfl rfl ?_
  refine st_aload_n (q := 148) dX1_tellLine_147 rfl rfl rfl ?_
  refine g_getA (q := 151) dX1_tellLine_148 rfl fl_X1_25.g hR rfl ?_
  refine st_iconst (q := 152) dX1_tellLine_151 rfl ic_0 ?_
  refine g_iald (q := 153) dX1_tellLine_152 rfl gkX1 hR (i := 2) rfl (by exact ev_ix_nI (j := 0) (by decide) (by decide)) ?_
  refine st_aload_n (q := 154) dX1_tellLine_153 rfl rfl rfl ?_
  refine g_getA (q := 157) dX1_tellLine_154 rfl fl_X1_25.g hR rfl ?_
  refine st_iconst (q := 158) dX1_tellLine_157 rfl ic_1 ?_
  refine g_iald (q := 159) dX1_tellLine_158 rfl gkX1 hR (i := 2) rfl (by exact ev_ix_nI (j := 1) (by decide) (by decide)) ?_
  refine st_aload_n (q := 160) dX1_tellLine_159 rfl rfl rfl ?_
  refine g_getA (q := 163) dX1_tellLine_160 rfl fl_X1_25.g hR rfl ?_
  refine st_iconst (q := 164) dX1_tellLine_163 rfl ic_2 ?_
  refine g_iald (q := 165) dX1_tellLine_164 rfl gkX1 hR (i := 2) rfl (by exact ev_ix_nI (j := 2) (by decide) (by decide)) ?_
  refine sm_V4 (q := 168) (M' := mX5_addThing) dX1_tellLine_165 rfl ok_X5_addThing mk_X5_addThing ml_X1_141 ⟨Nat.le_of_ble_eq_true rfl, Nat.le_of_ble_eq_true rfl⟩ rfl (Nat.le_of_ble_eq_true rfl) (g_rv hQ rfl) ⟨rfl, rfl⟩ (c_X5_addThing hQ hD.2.2.1 (h8 (by omega))) ?_
  intro _ n w h9 _
  obtain ⟨rfl, rfl, hQ, hF_⟩ := h9
  replace hR := RR.fr hR (hF_ 42 (by omega)) (hF_ 55 (by omega))
  replace hF := FrW.r hF hF_
  refine st_return dX1_tellLine_168 rfl ?_
  first
    | (obtain rfl : wd = 4 := nI_ij (by omega) (by decide) c_1_0; exact ⟨rfl, rfl, ⟨_, hR, LR.rf (by decide) (by decide) (by decide)⟩, hQ, hF⟩)
    | (obtain rfl : wd = 5 := nI_ij (by omega) (by decide) c_1_1; exact ⟨rfl, rfl, ⟨_, hR, rfl, rfl, rfl, fun g g7 g8 g9 => tup_n g9⟩, by rw [show tlT D nh nt 5 (R 2 0) (R 2 1) (R 2 2) = tup D 13 (R 2 0).toNatClampNeg (R 2 1) from rfl, hxc rfl]; exact hQ, hF⟩)
    | (obtain rfl : wd = 6 := nI_ij (by omega) (by decide) c_1_2; exact ⟨rfl, rfl, ⟨_, hR, rfl, rfl, rfl, fun g g7 g8 g9 => tup_n g7⟩, hQ, hF⟩)
    | (obtain rfl : wd = 7 := nI_ij (by omega) (by decide) c_1_3; exact ⟨rfl, rfl, ⟨_, hR, rfl, rfl, rfl, fun g g7 g8 g9 => tup_n g8⟩, hQ, hF⟩)
    | (exact ⟨rfl, rfl, ⟨_, hR, LR.rf n5 n6 n7⟩, by rw [tlT, if_neg n4, if_neg n5, if_neg n6, if_neg n7]; exact hQ, hF⟩)
abbrev PSt : Type := Nat × gT × Nat × Nat × Int32 × Int32 × Int32
def lnS (D : gT) (nh nt : Nat) (wt lt dy : Int32) (wd p : Nat) (v : List Int32) : PSt := (p, tlT D nh nt wd (v.getD 0 0) (v.getD 1 0) (v.getD 2 0), (if wd = 4 then nh + 1 else nh), (if wd < 4 then nt + 1 else nt), (if wd = 6 then 1 else wt), (if wd = 7 then 1 else lt), (if wd = 5 then dy ||| 1 <<< (v.getD 0 0 &&& 31) else dy))
def lineE (b : Nat → Int32) (tl : Nat) (D : gT) (nh nt : Nat) (wt lt dy : Int32) (wd : Nat) (x : (Nat × Nat) ⊕ (List Int32 × Nat)) : (Nat × Nat) ⊕ PSt := match x with
  | .inl e => .inl e
  | .inr s => match tokF b tl s.2 with
    | .inl e => .inl e
    | .inr r => if r.1 = 3 then .inr (lnS D nh nt wt lt dy wd r.2.2.1 s.1) else .inl (2, r.2.1)
def lineF (b : Nat → Int32) (tl : Nat) (q : Nat × Nat × Nat × Int32) (D : gT) (nh nt : Nat) (wt lt dy : Int32) : (Nat × Nat) ⊕ PSt :=
  if q.1 = 1 ∧ wdF b q.2.1 q.2.2.1 0 8 < 8 then
    (if mbF (wdF b q.2.1 q.2.2.1 0 8) wt lt nh nt = 0 then lineE b tl D nh nt wt lt dy (wdF b q.2.1 q.2.2.1 0 8) (nmF b tl (wdF b q.2.1 q.2.2.1 0 8) dy (moL (wdF b q.2.1 q.2.2.1 0 8)).length 0 q.2.2.1)
     else .inl (mbF (wdF b q.2.1 q.2.2.1 0 8) wt lt nh nt, q.2.1))
  else .inl (2, q.2.1)
theorem nmF_ok {b : Nat → Int32} {tl wd : Nat} {dy : Int32} : ∀ (r k p : Nat) (s : List Int32 × Nat), p ≤ tl → nmF b tl wd dy r k p = .inr s → p ≤ s.2 ∧ s.2 ≤ tl ∧ s.1.length = r ∧ ∀ j, j < r → inI (s.1.getD j 0) ((leL wd).getD (k + j) 0) ((moL wd).getD (k + j) 0) = true
  | 0, k, p, s, hp, h => by cases h; exact ⟨Nat.le_refl _, hp, rfl, fun j hj => absurd hj (Nat.not_lt_zero j)⟩
  | r + 1, k, p, s, hp, h => by
    rw [nmF] at h
    cases ht : tokF b tl p with
    | inl e => rw [ht] at h; cases h
    | inr q =>
      rw [ht] at h
      dsimp only at h
      have hq := tokF_le hp ht
      split at h
      · split at h
        · rename_i hin
          split at h
          · cases h
          · cases hn : nmF b tl wd dy r (k + 1) q.2.2.1 with
            | inl e => rw [hn] at h; cases h
            | inr s' =>
              rw [hn] at h
              cases h
              obtain ⟨a1, a2, a3, a4⟩ := nmF_ok r (k + 1) q.2.2.1 s' hq.2.2.1 hn
              refine ⟨by dsimp only; omega, a2, by rw [List.length_cons, a3], fun j hj => ?_⟩
              match j, hj with
              | 0, _ => exact hin
              | j + 1, hj =>
                have := a4 j (by omega)
                rw [show k + 1 + j = k + (j + 1) from by omega] at this
                exact this
        · cases h
      · cases h
theorem DKp.tell {D : gT} {nh nt wd : Nat} {x y z : Int32} (h : DKp D nh nt) (hwd : wd < 8) (h4 : wd = 4 → nh < 4) (h8 : wd < 4 → nt < 8) : DKp (tlT D nh nt wd x y z) (if wd = 4 then nh + 1 else nh) (if wd < 4 then nt + 1 else nt) := by
  obtain ⟨a, b, c, d⟩ := h
  unfold tlT
  by_cases e4 : wd = 4
  · subst e4
    refine ⟨?_, by have := h4 rfl; simp; omega, ?_, by simpa using d⟩
    · show D 0 0 + 1 = nI (nh + 1); rw [a, nI_succ]
    · exact c
  · rw [if_neg e4, if_neg e4]
    by_cases e5 : wd = 5
    · subst e5; exact ⟨a, b, c, d⟩
    · rw [if_neg e5]
      by_cases e6 : wd = 6
      · subst e6; exact ⟨a, b, c, d⟩
      · rw [if_neg e6]
        by_cases e7 : wd = 7
        · subst e7; exact ⟨a, b, c, d⟩
        · rw [if_neg e7, if_pos (by omega)]
          refine ⟨a, b, ?_, by have := h8 (by omega); omega⟩
          show D 6 0 + 1 = nI (nt + 1); rw [c, nI_succ]
