set_option maxRecDepth 100000 in
set_option maxHeartbeats 4000000 in
theorem c_X6_swap {E : ev_E} {X Tn : gT} {Ti : Nat → gT} {Tp Sg : gT} {Sh : Nat → gT} {n : Nat} {w : ev_W} {w0 : ev_W} (hF : Fr 0 70 w0 w) (hX : XI X Tn Ti Tp Sg Sh n w) {nh nt dd : Nat} (hK : TK Tn nh nt dd) {x y : Int32} : Ct E mX6_swap [.ref 0, .int x, .int y] n w (ev_xr (swapS Tn nh nt dd x y) n w0 (XI X Tn Ti Tp Sg Sh n)) := by
  refine Ct.of 6 (by decide) (Nat.le_of_ble_eq_true rfl) rfl ?_
  have hd9 := hK.2.2.2.2.2.2
  have hn9 := hK.2.2.2.1
  refine st_iload_n (q := 1) dX6_swap_0 rfl rfl rfl ?_
  refine sp_S1 (q := 4) (M' := mX6_isAhead) dX6_swap_1 rfl ok_X6_isAhead mk_X6_isAhead ml_X6_193 ⟨Nat.le_of_ble_eq_true rfl, Nat.le_of_ble_eq_true rfl⟩ rfl (Nat.le_of_ble_eq_true rfl) ⟨rfl, rfl⟩ (c_X6_isAhead) ?_
  refine st_if_eq (q := 7) (tgt := 16) dX6_swap_4 rfl rfl (fun c_4 => ?_) (fun c_4 => ?_)
  · refine st_iconst (q := 17) dX6_swap_16 rfl ic_m1 ?_
    refine st_ireturn dX6_swap_17 rfl ?_
    first
      | exact ⟨by rw [swapS, if_neg (by rw [zI_0.mp c_4]; decide)], rfl, hX, hF⟩
      | exact ⟨by rw [swapS, if_pos (zI_1.mp c_4), if_neg (by rw [zI_0.mp c_13]; decide)], rfl, hX, hF⟩
  · refine st_iload_n (q := 8) dX6_swap_7 rfl rfl rfl ?_
    refine st_iconst (q := 9) dX6_swap_8 rfl ic_0 ?_
    refine st_iconst (q := 10) dX6_swap_9 rfl ic_1 ?_
    refine sp_S3 (q := 13) (M' := mX6_within) dX6_swap_10 rfl ok_X6_within mk_X6_within ml_X6_51 ⟨Nat.le_of_ble_eq_true rfl, Nat.le_of_ble_eq_true rfl⟩ rfl (Nat.le_of_ble_eq_true rfl) ⟨rfl, rfl⟩ (c_X6_within) ?_
    refine st_if_ne (q := 16) (tgt := 18) dX6_swap_13 rfl rfl (fun c_13 => ?_) (fun c_13 => ?_)
    · obtain ⟨m, hm, rfl⟩ := inI_k (k := 60) (zI_1.mp c_4) (by decide)
      have h60 : inI (nI m) 0 60 = true := zI_1.mp c_4
      have hmc : (nI m).toNatClampNeg = m := nI_clamp (by omega)
      refine st_aload_n (q := 19) dX6_swap_18 rfl rfl rfl ?_
      refine sm_V0 (q := 22) (M' := mX6_copyOfNow) dX6_swap_19 rfl ok_X6_copyOfNow mk_X6_copyOfNow ml_X6_196 ⟨Nat.le_of_ble_eq_true rfl, Nat.le_of_ble_eq_true rfl⟩ rfl (Nat.le_of_ble_eq_true rfl) (g_rv hX.x rfl) ⟨rfl, rfl⟩ (c_X6_copyOfNow hX) ?_
      intro _ n w h9 _
      obtain ⟨rfl, rfl, hX, hQ, hF_⟩ := h9
      replace hF := Fr.tr hF (hF_.mono (by omega) (by omega))
      refine st_iload_n (q := 23) dX6_swap_22 rfl rfl rfl ?_
      refine sm_S2 (q := 26) (M' := mX6_sorrowBehind) dX6_swap_23 rfl ok_X6_sorrowBehind mk_X6_sorrowBehind ml_X6_234 ⟨Nat.le_of_ble_eq_true rfl, Nat.le_of_ble_eq_true rfl⟩ rfl (Nat.le_of_ble_eq_true rfl) ⟨rfl, rfl⟩ (c_X6_sorrowBehind hQ (hK) (m := m) (by omega)) ?_
      intro _ n w h9 _
      obtain ⟨rfl, rfl, hQ, hF_⟩ := h9
      replace hX := hX.setTrial hQ hF_
      replace hF := Fr.tr hF (hF_.mono (by omega) (by omega))
      refine st_istore_n (q := 27) (L' := [_, _, _, _, _, _, _, _, _]) dX6_swap_26 rfl rfl (Nat.le_of_ble_eq_true rfl) rfl ?_
      refine st_bipush (q := 29) dX6_swap_27 rfl bp_m4 ?_
      refine st_istore (q := 31) (L' := [_, _, _, _, _, _, _, _, _]) dX6_swap_29 rfl (Nat.le_of_ble_eq_true rfl) rfl ?_
      refine st_iconst (q := 32) dX6_swap_31 rfl ic_0 ?_
      refine st_istore (q := 34) (L' := [_, _, _, _, _, _, _, _, _]) dX6_swap_32 rfl (Nat.le_of_ble_eq_true rfl) rfl ?_
      have lp : ∀ (k i : Nat), i + k = nt → ∀ (w1 : ev_W) (l6 la lb : Option Value), XI X Tn Ti Tp Sg Sh n w1 → Fr 0 70 w0 w1 → Ev E mX6_swap 34 [some (.ref 0), some (.int (nI m)), some (.int y), some (.int (swF Tn nh nt dd m i).1), some (.int (swF Tn nh nt dd m i).2), some (.int (nI i)), l6, la, lb] [] n w1 (0, 0) (ev_xr (swapS Tn nh nt dd (nI m) y) n w0 (XI X Tn Ti Tp Sg Sh n)) := by
        clear hX hF hQ
        intro k
        induction k with
        | zero =>
          intro i hi w l6 la lb hX hF
          obtain rfl : i = nt := hi
          refine st_iload (q := 36) dX6_swap_34 rfl rfl ?_
          refine st_aload_n (q := 37) dX6_swap_36 rfl rfl rfl ?_
          refine g_getO (q := 40) dX6_swap_37 rfl fl_X6_10.g hX.x rfl ?_
          refine g_get (q := 43) dX6_swap_40 rfl fl_X6_98.g hX.now rfl ?_
          refine st_icmp_ge (q := 46) (tgt := 132) dX6_swap_43 rfl rfl (fun c_43 => ?_) (fun c_43 => False.elim (c_43 (by rw [hK.2.2.1]; exact Int32.le_refl _)))
          refine st_aload_n (q := 133) dX6_swap_132 rfl rfl rfl ?_
          refine st_iload (q := 135) dX6_swap_133 rfl rfl ?_
          refine st_iload_n (q := 136) dX6_swap_135 rfl rfl rfl ?_
          refine st_iload_n (q := 137) dX6_swap_136 rfl rfl rfl ?_
          refine sp_V3 (q := 140) (M' := mX6_bestOrSorrow) dX6_swap_137 rfl ok_X6_bestOrSorrow mk_X6_bestOrSorrow ml_X6_249 ⟨Nat.le_of_ble_eq_true rfl, Nat.le_of_ble_eq_true rfl⟩ rfl (Nat.le_of_ble_eq_true rfl) (g_rv hX.x rfl) ⟨rfl, rfl⟩ (c_X6_bestOrSorrow hX) ?_
          refine st_ireturn dX6_swap_140 rfl ?_
          exact ⟨by rw [swapS, if_pos h60, if_pos (zI_1.mp c_13), hmc], rfl, hX, hF⟩
        | succ k ih =>
          intro i hi w l6 la lb hX hF
          refine st_iload (q := 36) dX6_swap_34 rfl rfl ?_
          refine st_aload_n (q := 37) dX6_swap_36 rfl rfl rfl ?_
          refine g_getO (q := 40) dX6_swap_37 rfl fl_X6_10.g hX.x rfl ?_
          refine g_get (q := 43) dX6_swap_40 rfl fl_X6_98.g hX.now rfl ?_
          refine st_icmp_ge (q := 46) (tgt := 132) dX6_swap_43 rfl rfl (fun c_43 => False.elim (absurd (by rw [← hK.2.2.1]; exact c_43) (nI_ge (a := i) (b := nt) (by omega) (by omega)))) (fun c_43 => ?_)
          refine st_iload (q := 48) dX6_swap_46 rfl rfl ?_
          refine st_iconst (q := 49) dX6_swap_48 rfl ic_1 ?_
          refine st_iadd (q := 50) dX6_swap_49 rfl ?_
          refine st_istore (q := 52) (L' := [_, _, _, _, _, _, _, _, _]) dX6_swap_50 rfl (Nat.le_of_ble_eq_true rfl) rfl ?_
          have lq : ∀ (k g : Nat), i + 1 + g + k = nt → ∀ (w1 : ev_W) (la lb : Option Value), XI X Tn Ti Tp Sg Sh n w1 → Fr 0 70 w0 w1 → Ev E mX6_swap 52 [some (.ref 0), some (.int (nI m)), some (.int y), some (.int (swIn Tn nh nt dd m i (swF Tn nh nt dd m i) g).1), some (.int (swIn Tn nh nt dd m i (swF Tn nh nt dd m i) g).2), some (.int (nI i)), some (.int (nI (i + 1 + g))), la, lb] [] n w1 (0, 0) (ev_xr (swapS Tn nh nt dd (nI m) y) n w0 (XI X Tn Ti Tp Sg Sh n)) := by
            clear hX hF
            intro k
            induction k with
            | zero =>
              intro g hg w la lb hX hF
              obtain rfl : g = nt - (i + 1) := by omega
              refine st_iload (q := 54) dX6_swap_52 rfl rfl ?_
              refine st_aload_n (q := 55) dX6_swap_54 rfl rfl rfl ?_
              refine g_getO (q := 58) dX6_swap_55 rfl fl_X6_10.g hX.x rfl ?_
              refine g_get (q := 61) dX6_swap_58 rfl fl_X6_98.g hX.now rfl ?_
              refine st_icmp_ge (q := 64) (tgt := 126) dX6_swap_61 rfl rfl (fun c_61 => ?_) (fun c_61 => False.elim (c_61 (by rw [hK.2.2.1]; exact nI_le (by omega) (by omega))))
              refine st_iinc (q := 129) (L' := [_, _, _, _, _, _, _, _, _]) dX6_swap_126 rfl rfl (nI_succ _).symm (Nat.le_of_ble_eq_true rfl) rfl ?_
              refine st_goto (q := 34) dX6_swap_129 rfl ?_
              exact ih (i + 1) (by omega) w _ la lb hX hF
            | succ k ihq =>
              intro g hg w la lb hX hF
              refine st_iload (q := 54) dX6_swap_52 rfl rfl ?_
              refine st_aload_n (q := 55) dX6_swap_54 rfl rfl rfl ?_
              refine g_getO (q := 58) dX6_swap_55 rfl fl_X6_10.g hX.x rfl ?_
              refine g_get (q := 61) dX6_swap_58 rfl fl_X6_98.g hX.now rfl ?_
              refine st_icmp_ge (q := 64) (tgt := 126) dX6_swap_61 rfl rfl (fun c_61 => False.elim (absurd (by rw [← hK.2.2.1]; exact c_61) (nI_ge (a := i + 1 + g) (b := nt) (by omega) (by omega)))) (fun c_61 => ?_)
              refine st_aload_n (q := 65) dX6_swap_64 rfl rfl rfl ?_
              refine g_getO (q := 68) dX6_swap_65 rfl fl_X6_10.g hX.x rfl ?_
              refine st_iload (q := 70) dX6_swap_68 rfl rfl ?_
              refine st_iload (q := 72) dX6_swap_70 rfl rfl ?_
              refine sp_V2 (q := 75) (M' := mX5_mayChangeHomes) dX6_swap_72 rfl ok_X5_mayChangeHomes mk_X5_mayChangeHomes ml_X6_241 ⟨Nat.le_of_ble_eq_true rfl, Nat.le_of_ble_eq_true rfl⟩ rfl (Nat.le_of_ble_eq_true rfl) (g_rv hX.now rfl) ⟨rfl, rfl⟩ (c_X5_mayChangeHomes hX.now (i := i) (j := i + 1 + g) (by omega) (by omega)) ?_
              refine st_if_eq (q := 78) (tgt := 120) dX6_swap_75 rfl rfl (fun c_75 => ?_) (fun c_75 => ?_)
              · refine st_iinc (q := 123) (L' := [_, _, _, _, _, _, _, _, _]) dX6_swap_120 rfl rfl (nI_succ _).symm (Nat.le_of_ble_eq_true rfl) rfl ?_
                refine st_goto (q := 52) dX6_swap_123 rfl ?_
                first
                  | (have K := ihq (g + 1) (by omega) w (some (.ref 11)) (some (.int (dysT (chT Tn i (i + 1 + g)) dd nh nt m 17 0))) hX hF; rw [show swIn Tn nh nt dd m i (swF Tn nh nt dd m i) (g + 1) = _ from mnF_y (zI_1.mp c_75) c_104] at K; exact K)
                  | (have K := ihq (g + 1) (by omega) w (some (.ref 11)) (some (.int (dysT (chT Tn i (i + 1 + g)) dd nh nt m 17 0))) hX hF; rw [show swIn Tn nh nt dd m i (swF Tn nh nt dd m i) (g + 1) = _ from mnF_k (zI_1.mp c_75) c_104] at K; exact K)
                  | (have K := ihq (g + 1) (by omega) w la lb hX hF; rw [show swIn Tn nh nt dd m i (swF Tn nh nt dd m i) (g + 1) = _ from mnF_n (by rw [zI_0.mp c_75]; decide)] at K; exact K)
              · refine st_aload_n (q := 79) dX6_swap_78 rfl rfl rfl ?_
                refine sm_V0 (q := 82) (M' := mX6_copyOfNow) dX6_swap_79 rfl ok_X6_copyOfNow mk_X6_copyOfNow ml_X6_196 ⟨Nat.le_of_ble_eq_true rfl, Nat.le_of_ble_eq_true rfl⟩ rfl (Nat.le_of_ble_eq_true rfl) (g_rv hX.x rfl) ⟨rfl, rfl⟩ (c_X6_copyOfNow hX) ?_
                intro _ n w h9 _
                obtain ⟨rfl, rfl, hX, hQ, hF_⟩ := h9
                replace hF := Fr.tr hF (hF_.mono (by omega) (by omega))
                refine st_astore (q := 84) (L' := [_, _, _, _, _, _, _, _, _]) dX6_swap_82 rfl (Nat.le_of_ble_eq_true rfl) rfl ?_
                refine st_aload (q := 86) dX6_swap_84 rfl rfl ?_
                refine st_iload (q := 88) dX6_swap_86 rfl rfl ?_
                refine st_iload (q := 90) dX6_swap_88 rfl rfl ?_
                refine sm_V2 (q := 93) (M' := mX5_changeHomes) dX6_swap_90 rfl ok_X5_changeHomes mk_X5_changeHomes ml_X6_245 ⟨Nat.le_of_ble_eq_true rfl, Nat.le_of_ble_eq_true rfl⟩ rfl (Nat.le_of_ble_eq_true rfl) (g_rv hQ rfl) ⟨rfl, rfl⟩ (c_X5_changeHomes hQ (i := i) (j := i + 1 + g) (by omega) (by omega)) ?_
                intro _ n w h9 _
                obtain ⟨rfl, rfl, hQ, hF_⟩ := h9
                replace hX := hX.setTrial hQ hF_
                replace hF := Fr.tr hF (hF_.mono (by omega) (by omega))
                refine st_aload (q := 95) dX6_swap_93 rfl rfl ?_
                refine st_iload_n (q := 96) dX6_swap_95 rfl rfl rfl ?_
                refine sm_S2 (q := 99) (M' := mX6_sorrowBehind) dX6_swap_96 rfl ok_X6_sorrowBehind mk_X6_sorrowBehind ml_X6_234 ⟨Nat.le_of_ble_eq_true rfl, Nat.le_of_ble_eq_true rfl⟩ rfl (Nat.le_of_ble_eq_true rfl) ⟨rfl, rfl⟩ (c_X6_sorrowBehind hQ (hK.swp (i := i) (j := i + 1 + g) (by omega) (by omega)) (m := m) (by omega)) ?_
                intro _ n w h9 _
                obtain ⟨rfl, rfl, hQ, hF_⟩ := h9
                replace hX := hX.setTrial hQ hF_
                replace hF := Fr.tr hF (hF_.mono (by omega) (by omega))
                refine st_istore (q := 101) (L' := [_, _, _, _, _, _, _, _, _]) dX6_swap_99 rfl (Nat.le_of_ble_eq_true rfl) rfl ?_
                refine st_iload (q := 103) dX6_swap_101 rfl rfl ?_
                refine st_iload_n (q := 104) dX6_swap_103 rfl rfl rfl ?_
                refine st_icmp_ge (q := 107) (tgt := 120) dX6_swap_104 rfl rfl (fun c_104 => ?_) (fun c_104 => ?_)
                · refine st_iinc (q := 123) (L' := [_, _, _, _, _, _, _, _, _]) dX6_swap_120 rfl rfl (nI_succ _).symm (Nat.le_of_ble_eq_true rfl) rfl ?_
                  refine st_goto (q := 52) dX6_swap_123 rfl ?_
                  first
                    | (have K := ihq (g + 1) (by omega) w (some (.ref 11)) (some (.int (dysT (chT Tn i (i + 1 + g)) dd nh nt m 17 0))) hX hF; rw [show swIn Tn nh nt dd m i (swF Tn nh nt dd m i) (g + 1) = _ from mnF_y (zI_1.mp c_75) c_104] at K; exact K)
                    | (have K := ihq (g + 1) (by omega) w (some (.ref 11)) (some (.int (dysT (chT Tn i (i + 1 + g)) dd nh nt m 17 0))) hX hF; rw [show swIn Tn nh nt dd m i (swF Tn nh nt dd m i) (g + 1) = _ from mnF_k (zI_1.mp c_75) c_104] at K; exact K)
                    | (have K := ihq (g + 1) (by omega) w la lb hX hF; rw [show swIn Tn nh nt dd m i (swF Tn nh nt dd m i) (g + 1) = _ from mnF_n (by rw [zI_0.mp c_75]; decide)] at K; exact K)
                · refine st_iload (q := 109) dX6_swap_107 rfl rfl ?_
                  refine st_istore_n (q := 110) (L' := [_, _, _, _, _, _, _, _, _]) dX6_swap_109 rfl rfl (Nat.le_of_ble_eq_true rfl) rfl ?_
                  refine st_bipush (q := 112) dX6_swap_110 rfl bp_10 ?_
                  refine st_iload (q := 114) dX6_swap_112 rfl rfl ?_
                  refine st_imul (q := 115) dX6_swap_114 rfl ?_
                  refine st_iload (q := 117) dX6_swap_115 rfl rfl ?_
                  refine st_iadd (q := 118) dX6_swap_117 rfl ?_
                  refine st_istore (q := 120) (L' := [_, _, _, _, _, _, _, _, _]) dX6_swap_118 rfl (Nat.le_of_ble_eq_true rfl) rfl ?_
                  refine st_iinc (q := 123) (L' := [_, _, _, _, _, _, _, _, _]) dX6_swap_120 rfl rfl (nI_succ _).symm (Nat.le_of_ble_eq_true rfl) rfl ?_
                  refine st_goto (q := 52) dX6_swap_123 rfl ?_
                  first
                    | (have K := ihq (g + 1) (by omega) w (some (.ref 11)) (some (.int (dysT (chT Tn i (i + 1 + g)) dd nh nt m 17 0))) hX hF; rw [show swIn Tn nh nt dd m i (swF Tn nh nt dd m i) (g + 1) = _ from mnF_y (zI_1.mp c_75) c_104] at K; exact K)
                    | (have K := ihq (g + 1) (by omega) w (some (.ref 11)) (some (.int (dysT (chT Tn i (i + 1 + g)) dd nh nt m 17 0))) hX hF; rw [show swIn Tn nh nt dd m i (swF Tn nh nt dd m i) (g + 1) = _ from mnF_k (zI_1.mp c_75) c_104] at K; exact K)
                    | (have K := ihq (g + 1) (by omega) w la lb hX hF; rw [show swIn Tn nh nt dd m i (swF Tn nh nt dd m i) (g + 1) = _ from mnF_n (by rw [zI_0.mp c_75]; decide)] at K; exact K)
          have z9 := lq (nt - (i + 1)) 0 (by omega) w la lb hX hF
          rw [show i + 1 + 0 = i + 1 from rfl, nI_succ] at z9
          exact z9
      exact lp nt 0 (by omega) w _ _ _ hX hF
    · refine st_iconst (q := 17) dX6_swap_16 rfl ic_m1 ?_
      refine st_ireturn dX6_swap_17 rfl ?_
      first
        | exact ⟨by rw [swapS, if_neg (by rw [zI_0.mp c_4]; decide)], rfl, hX, hF⟩
        | exact ⟨by rw [swapS, if_pos (zI_1.mp c_4), if_neg (by rw [zI_0.mp c_13]; decide)], rfl, hX, hF⟩
def pk1 (T : gT) (nt j : Nat) (op : Int32) (s : Nat) (r : Int32 × Int32) : Int32 × Int32 := if nI s &&& (op ^^^ -1) = 0 then (if fsT T (nI s) nt ≤ T 2 j then (if r.1 < csT T (nI s) nt then (csT T (nI s) nt, nI s) else r) else r) else r
def pkF (T : gT) (nt j : Nat) (op : Int32) : Nat → Int32 × Int32
  | 0 => (0, 0)
  | k + 1 => pk1 T nt j op (k + 1) (pkF T nt j op k)
def packS (T : gT) (nh nt : Nat) (x y : Int32) : Int32 := if inI x 0 (nI nh - 1) = true then (if inI y 0 2 = true then
  (let s := (pkF T nt x.toNatClampNeg (tkI T x nt) 255).2
   if y = 0 then s else if y = 1 then csT T s nt else fsT T s nt) else -1) else -1
set_option maxRecDepth 100000 in
set_option maxHeartbeats 4000000 in
theorem c_X6_dearestSet {E : ev_E} {X Tn : gT} {Ti : Nat → gT} {Tp Sg : gT} {Sh : Nat → gT} {n : Nat} {w : ev_W} (hX : XI X Tn Ti Tp Sg Sh n w) {nh nt dd : Nat} (hK : TK Tn nh nt dd) {j : Nat} (hj : j < 4) : Ct E mX6_dearestSet [.ref 0, .int (nI j)] n w (ev_is (some (.int (pkF Tn nt j (tkI Tn (nI j) nt) 255).2)) n w) := by
  refine Ct.of 5 (by decide) (Nat.le_of_ble_eq_true rfl) rfl ?_
  have lp : ∀ (k i : Nat), i + k = 255 → ∀ (la : Option Value), Ev E mX6_dearestSet 27 [some (.ref 0), some (.int (nI j)), some (.int (tkI Tn (nI j) nt)), some (.int (pkF Tn nt j (tkI Tn (nI j) nt) i).2), some (.int (pkF Tn nt j (tkI Tn (nI j) nt) i).1), some (.int (nI (i + 1))), la] [] n w (0, 0) (ev_is (some (.int (pkF Tn nt j (tkI Tn (nI j) nt) 255).2)) n w) := by
    intro k
    induction k with
    | zero =>
      intro i hi la
      obtain rfl : i = 255 := hi
      refine st_iload (q := 29) dX6_dearestSet_27 rfl rfl ?_
      refine st_sipush (q := 32) dX6_dearestSet_29 rfl sp_256 ?_
      refine st_icmp_ge (q := 35) (tgt := 96) dX6_dearestSet_32 rfl rfl (fun c_32 => ?_) (fun c_32 => False.elim (c_32 (by decide)))
      refine st_iload_n (q := 97) dX6_dearestSet_96 rfl rfl rfl ?_
      refine st_ireturn dX6_dearestSet_97 rfl ?_
      exact ⟨rfl, rfl, rfl⟩
    | succ k ih =>
      intro i hi la
      refine st_iload (q := 29) dX6_dearestSet_27 rfl rfl ?_
      refine st_sipush (q := 32) dX6_dearestSet_29 rfl sp_256 ?_
      refine st_icmp_ge (q := 35) (tgt := 96) dX6_dearestSet_32 rfl rfl (fun c_32 => False.elim (absurd c_32 (nI_ge (a := i + 1) (b := 256) (by omega) (by omega)))) (fun c_32 => ?_)
      refine st_iload (q := 37) dX6_dearestSet_35 rfl rfl ?_
      refine st_iload_n (q := 38) dX6_dearestSet_37 rfl rfl rfl ?_
      refine st_iconst (q := 39) dX6_dearestSet_38 rfl ic_m1 ?_
      refine st_ixor (q := 40) dX6_dearestSet_39 rfl ?_
      refine st_iand (q := 41) dX6_dearestSet_40 rfl ?_
      refine st_if_ne (q := 44) (tgt := 90) dX6_dearestSet_41 rfl rfl (fun c_41 => ?_) (fun c_41 => ?_)
      · refine st_iinc (q := 93) (L' := [_, _, _, _, _, _, _]) dX6_dearestSet_90 rfl rfl (nI_succ _).symm (Nat.le_of_ble_eq_true rfl) rfl ?_
        refine st_goto (q := 27) dX6_dearestSet_93 rfl ?_
        first
          | (have K := ih (i + 1) (by omega) (some (.int (csT Tn (nI (i + 1)) nt))); rw [pkF, pk1, if_pos c_41, if_pos (Int32.not_lt.mp c_62), if_pos (Int32.not_le.mp c_80)] at K; exact K)
          | (have K := ih (i + 1) (by omega) (some (.int (csT Tn (nI (i + 1)) nt))); rw [pkF, pk1, if_pos c_41, if_pos (Int32.not_lt.mp c_62), if_neg (Int32.not_lt.mpr c_80)] at K; exact K)
          | (have K := ih (i + 1) (by omega) la; rw [pkF, pk1, if_pos c_41, if_neg (Int32.not_le.mpr c_62)] at K; exact K)
          | (have K := ih (i + 1) (by omega) la; rw [pkF, pk1, if_neg c_41] at K; exact K)
      · refine st_aload_n (q := 45) dX6_dearestSet_44 rfl rfl rfl ?_
        refine g_getO (q := 48) dX6_dearestSet_45 rfl fl_X6_10.g hX.x rfl ?_
        refine st_iload (q := 50) dX6_dearestSet_48 rfl rfl ?_
        refine sp_V1 (q := 53) (M' := mX5_fillOfSet) dX6_dearestSet_50 rfl ok_X5_fillOfSet mk_X5_fillOfSet ml_X6_224 ⟨Nat.le_of_ble_eq_true rfl, Nat.le_of_ble_eq_true rfl⟩ rfl (Nat.le_of_ble_eq_true rfl) (g_rv hX.now rfl) ⟨rfl, rfl⟩ (c_X5_fillOfSet hX.now hK.2.2.1 hK.2.2.2.1) ?_
        refine st_aload_n (q := 54) dX6_dearestSet_53 rfl rfl rfl ?_
        refine g_getO (q := 57) dX6_dearestSet_54 rfl fl_X6_10.g hX.x rfl ?_
        refine g_getA (q := 60) dX6_dearestSet_57 rfl fl_X6_209 hX.now rfl ?_
        refine st_iload_n (q := 61) dX6_dearestSet_60 rfl rfl rfl ?_
        refine g_iald (q := 62) dX6_dearestSet_61 rfl gkX5 hX.now (i := 2) rfl (by exact ev_ix_nI (j := j) (by omega) (by decide)) ?_
        refine st_icmp_gt (q := 65) (tgt := 90) dX6_dearestSet_62 rfl rfl (fun c_62 => ?_) (fun c_62 => ?_)
        · refine st_iinc (q := 93) (L' := [_, _, _, _, _, _, _]) dX6_dearestSet_90 rfl rfl (nI_succ _).symm (Nat.le_of_ble_eq_true rfl) rfl ?_
          refine st_goto (q := 27) dX6_dearestSet_93 rfl ?_
          first
            | (have K := ih (i + 1) (by omega) (some (.int (csT Tn (nI (i + 1)) nt))); rw [pkF, pk1, if_pos c_41, if_pos (Int32.not_lt.mp c_62), if_pos (Int32.not_le.mp c_80)] at K; exact K)
            | (have K := ih (i + 1) (by omega) (some (.int (csT Tn (nI (i + 1)) nt))); rw [pkF, pk1, if_pos c_41, if_pos (Int32.not_lt.mp c_62), if_neg (Int32.not_lt.mpr c_80)] at K; exact K)
            | (have K := ih (i + 1) (by omega) la; rw [pkF, pk1, if_pos c_41, if_neg (Int32.not_le.mpr c_62)] at K; exact K)
            | (have K := ih (i + 1) (by omega) la; rw [pkF, pk1, if_neg c_41] at K; exact K)
        · refine st_aload_n (q := 66) dX6_dearestSet_65 rfl rfl rfl ?_
          refine g_getO (q := 69) dX6_dearestSet_66 rfl fl_X6_10.g hX.x rfl ?_
          refine st_iload (q := 71) dX6_dearestSet_69 rfl rfl ?_
          refine sp_V1 (q := 74) (M' := mX5_costOfSet) dX6_dearestSet_71 rfl ok_X5_costOfSet mk_X5_costOfSet ml_X6_221 ⟨Nat.le_of_ble_eq_true rfl, Nat.le_of_ble_eq_true rfl⟩ rfl (Nat.le_of_ble_eq_true rfl) (g_rv hX.now rfl) ⟨rfl, rfl⟩ (c_X5_costOfSet hX.now hK.2.2.1 hK.2.2.2.1) ?_
          refine st_istore (q := 76) (L' := [_, _, _, _, _, _, _]) dX6_dearestSet_74 rfl (Nat.le_of_ble_eq_true rfl) rfl ?_
          refine st_iload (q := 78) dX6_dearestSet_76 rfl rfl ?_
          refine st_iload (q := 80) dX6_dearestSet_78 rfl rfl ?_
          refine st_icmp_le (q := 83) (tgt := 90) dX6_dearestSet_80 rfl rfl (fun c_80 => ?_) (fun c_80 => ?_)
          · refine st_iinc (q := 93) (L' := [_, _, _, _, _, _, _]) dX6_dearestSet_90 rfl rfl (nI_succ _).symm (Nat.le_of_ble_eq_true rfl) rfl ?_
            refine st_goto (q := 27) dX6_dearestSet_93 rfl ?_
            first
              | (have K := ih (i + 1) (by omega) (some (.int (csT Tn (nI (i + 1)) nt))); rw [pkF, pk1, if_pos c_41, if_pos (Int32.not_lt.mp c_62), if_pos (Int32.not_le.mp c_80)] at K; exact K)
              | (have K := ih (i + 1) (by omega) (some (.int (csT Tn (nI (i + 1)) nt))); rw [pkF, pk1, if_pos c_41, if_pos (Int32.not_lt.mp c_62), if_neg (Int32.not_lt.mpr c_80)] at K; exact K)
              | (have K := ih (i + 1) (by omega) la; rw [pkF, pk1, if_pos c_41, if_neg (Int32.not_le.mpr c_62)] at K; exact K)
              | (have K := ih (i + 1) (by omega) la; rw [pkF, pk1, if_neg c_41] at K; exact K)
          · refine st_iload (q := 85) dX6_dearestSet_83 rfl rfl ?_
            refine st_istore (q := 87) (L' := [_, _, _, _, _, _, _]) dX6_dearestSet_85 rfl (Nat.le_of_ble_eq_true rfl) rfl ?_
            refine st_iload (q := 89) dX6_dearestSet_87 rfl rfl ?_
            refine st_istore_n (q := 90) (L' := [_, _, _, _, _, _, _]) dX6_dearestSet_89 rfl rfl (Nat.le_of_ble_eq_true rfl) rfl ?_
            refine st_iinc (q := 93) (L' := [_, _, _, _, _, _, _]) dX6_dearestSet_90 rfl rfl (nI_succ _).symm (Nat.le_of_ble_eq_true rfl) rfl ?_
            refine st_goto (q := 27) dX6_dearestSet_93 rfl ?_
            first
              | (have K := ih (i + 1) (by omega) (some (.int (csT Tn (nI (i + 1)) nt))); rw [pkF, pk1, if_pos c_41, if_pos (Int32.not_lt.mp c_62), if_pos (Int32.not_le.mp c_80)] at K; exact K)
              | (have K := ih (i + 1) (by omega) (some (.int (csT Tn (nI (i + 1)) nt))); rw [pkF, pk1, if_pos c_41, if_pos (Int32.not_lt.mp c_62), if_neg (Int32.not_lt.mpr c_80)] at K; exact K)
              | (have K := ih (i + 1) (by omega) la; rw [pkF, pk1, if_pos c_41, if_neg (Int32.not_le.mpr c_62)] at K; exact K)
              | (have K := ih (i + 1) (by omega) la; rw [pkF, pk1, if_neg c_41] at K; exact K)
  refine st_aload_n (q := 1) dX6_dearestSet_0 rfl rfl rfl ?_
  refine g_getO (q := 4) dX6_dearestSet_1 rfl fl_X6_10.g hX.x rfl ?_
  refine st_iload_n (q := 5) dX6_dearestSet_4 rfl rfl rfl ?_
  refine sp_V1 (q := 8) (M' := mX5_thingsOf) dX6_dearestSet_5 rfl ok_X5_thingsOf mk_X5_thingsOf ml_X6_129 ⟨Nat.le_of_ble_eq_true rfl, Nat.le_of_ble_eq_true rfl⟩ rfl (Nat.le_of_ble_eq_true rfl) (g_rv hX.now rfl) ⟨rfl, rfl⟩ (c_X5_thingsOf hX.now hK.2.2.1 hK.2.2.2.1) ?_
  refine st_aload_n (q := 9) dX6_dearestSet_8 rfl rfl rfl ?_
  refine g_getO (q := 12) dX6_dearestSet_9 rfl fl_X6_10.g hX.x rfl ?_
  refine g_get (q := 15) dX6_dearestSet_12 rfl fl_X6_119.g hX.now rfl ?_
  refine st_iconst (q := 16) dX6_dearestSet_15 rfl ic_m1 ?_
  refine st_ixor (q := 17) dX6_dearestSet_16 rfl ?_
  refine st_iand (q := 18) dX6_dearestSet_17 rfl ?_
  refine st_istore_n (q := 19) (L' := [_, _, _, _, _, _, _]) dX6_dearestSet_18 rfl rfl (Nat.le_of_ble_eq_true rfl) rfl ?_
  refine st_iconst (q := 20) dX6_dearestSet_19 rfl ic_0 ?_
  refine st_istore_n (q := 21) (L' := [_, _, _, _, _, _, _]) dX6_dearestSet_20 rfl rfl (Nat.le_of_ble_eq_true rfl) rfl ?_
  refine st_iconst (q := 22) dX6_dearestSet_21 rfl ic_0 ?_
  refine st_istore (q := 24) (L' := [_, _, _, _, _, _, _]) dX6_dearestSet_22 rfl (Nat.le_of_ble_eq_true rfl) rfl ?_
  refine st_iconst (q := 25) dX6_dearestSet_24 rfl ic_1 ?_
  refine st_istore (q := 27) (L' := [_, _, _, _, _, _, _]) dX6_dearestSet_25 rfl (Nat.le_of_ble_eq_true rfl) rfl ?_
  exact lp 255 0 (by omega) none
set_option maxRecDepth 100000 in
set_option maxHeartbeats 4000000 in
theorem c_X6_pack {E : ev_E} {X Tn : gT} {Ti : Nat → gT} {Tp Sg : gT} {Sh : Nat → gT} {n : Nat} {w : ev_W} {w0 : ev_W} (hF : Fr 0 70 w0 w) (hX : XI X Tn Ti Tp Sg Sh n w) {nh nt dd : Nat} (hK : TK Tn nh nt dd) {x y : Int32} : Ct E mX6_pack [.ref 0, .int x, .int y] n w (ev_xr (packS Tn nh nt x y) n w0 (XI X Tn Ti Tp Sg Sh n)) := by
  refine Ct.of 1 (by decide) (Nat.le_of_ble_eq_true rfl) rfl ?_
  refine st_aload_n (q := 1) dX6_pack_0 rfl rfl rfl ?_
  refine g_getO (q := 4) dX6_pack_1 rfl fl_X6_10.g hX.x rfl ?_
  refine st_iload_n (q := 5) dX6_pack_4 rfl rfl rfl ?_
  refine sp_V1 (q := 8) (M' := mX5_isHouse) dX6_pack_5 rfl ok_X5_isHouse mk_X5_isHouse ml_X6_122 ⟨Nat.le_of_ble_eq_true rfl, Nat.le_of_ble_eq_true rfl⟩ rfl (Nat.le_of_ble_eq_true rfl) (g_rv hX.now rfl) ⟨rfl, rfl⟩ (c_X5_isHouse hX.now) ?_
  refine st_if_eq (q := 11) (tgt := 20) dX6_pack_8 rfl rfl (fun c_8 => ?_) (fun c_8 => ?_)
  · refine st_iconst (q := 21) dX6_pack_20 rfl ic_m1 ?_
    refine st_ireturn dX6_pack_21 rfl ?_
    first
      | exact ⟨by rw [packS, if_neg (by rw [← hK.1, zI_0.mp c_8]; decide)], rfl, hX, hF⟩
      | exact ⟨by rw [packS, if_pos (by rw [← hK.1]; exact zI_1.mp c_8), if_neg (by rw [zI_0.mp c_17]; decide)], rfl, hX, hF⟩
  · refine st_iload_n (q := 12) dX6_pack_11 rfl rfl rfl ?_
    refine st_iconst (q := 13) dX6_pack_12 rfl ic_0 ?_
    refine st_iconst (q := 14) dX6_pack_13 rfl ic_2 ?_
    refine sp_S3 (q := 17) (M' := mX6_within) dX6_pack_14 rfl ok_X6_within mk_X6_within ml_X6_51 ⟨Nat.le_of_ble_eq_true rfl, Nat.le_of_ble_eq_true rfl⟩ rfl (Nat.le_of_ble_eq_true rfl) ⟨rfl, rfl⟩ (c_X6_within) ?_
    refine st_if_ne (q := 20) (tgt := 22) dX6_pack_17 rfl rfl (fun c_17 => ?_) (fun c_17 => ?_)
    · obtain ⟨j, hj, rfl⟩ := inI_ix (by rw [← hK.1]; exact zI_1.mp c_8) (by have := hK.2.1; omega)
      have h1 : inI (nI j) 0 (nI nh - 1) = true := by rw [← hK.1]; exact zI_1.mp c_8
      have hjc : (nI j).toNatClampNeg = j := nI_clamp (by have := hK.2.1; omega)
      have hK4 := hK.2.1
      refine st_aload_n (q := 23) dX6_pack_22 rfl rfl rfl ?_
      refine st_iload_n (q := 24) dX6_pack_23 rfl rfl rfl ?_
      refine sp_V1 (q := 27) (M' := mX6_dearestSet) dX6_pack_24 rfl ok_X6_dearestSet mk_X6_dearestSet ml_X6_218 ⟨Nat.le_of_ble_eq_true rfl, Nat.le_of_ble_eq_true rfl⟩ rfl (Nat.le_of_ble_eq_true rfl) (g_rv hX.x rfl) ⟨rfl, rfl⟩ (c_X6_dearestSet hX hK (by omega)) ?_
      refine st_istore_n (q := 28) (L' := [_, _, _, _]) dX6_pack_27 rfl rfl (Nat.le_of_ble_eq_true rfl) rfl ?_
      refine st_iload_n (q := 29) dX6_pack_28 rfl rfl rfl ?_
      refine st_lkK (v := 0) (key := 0) (tgt := 56) dX6_pack_29 rfl (by decide) rfl rfl (fun c_29_0 => ?_) (fun c_29_0 t_29_0 => ?_)
      · refine st_iload_n (q := 57) dX6_pack_56 rfl rfl rfl ?_
        refine st_ireturn dX6_pack_57 rfl ?_
        refine ⟨?_, rfl, hX, hF⟩
        rw [packS, if_pos h1, if_pos (zI_1.mp c_17), hjc]
        simp_all
      refine st_lkK (v := 1) (key := 1) (tgt := 58) dX6_pack_29 rfl (by decide) rfl rfl (fun c_29_1 => ?_) (fun c_29_1 t_29_1 => ?_)
      · refine st_aload_n (q := 59) dX6_pack_58 rfl rfl rfl ?_
        refine g_getO (q := 62) dX6_pack_59 rfl fl_X6_10.g hX.x rfl ?_
        refine st_iload_n (q := 63) dX6_pack_62 rfl rfl rfl ?_
        refine sp_V1 (q := 66) (M' := mX5_costOfSet) dX6_pack_63 rfl ok_X5_costOfSet mk_X5_costOfSet ml_X6_221 ⟨Nat.le_of_ble_eq_true rfl, Nat.le_of_ble_eq_true rfl⟩ rfl (Nat.le_of_ble_eq_true rfl) (g_rv hX.now rfl) ⟨rfl, rfl⟩ (c_X5_costOfSet hX.now hK.2.2.1 hK.2.2.2.1) ?_
        refine st_ireturn dX6_pack_66 rfl ?_
        refine ⟨?_, rfl, hX, hF⟩
        rw [packS, if_pos h1, if_pos (zI_1.mp c_17), hjc]
        simp_all
      refine st_lookup (tgt := 67) (off := 38) dX6_pack_29 rfl (by simp [Op.lookupswitch.offset, t_29_0, t_29_1]) rfl ?_
      refine st_aload_n (q := 68) dX6_pack_67 rfl rfl rfl ?_
      refine g_getO (q := 71) dX6_pack_68 rfl fl_X6_10.g hX.x rfl ?_
      refine st_iload_n (q := 72) dX6_pack_71 rfl rfl rfl ?_
      refine sp_V1 (q := 75) (M' := mX5_fillOfSet) dX6_pack_72 rfl ok_X5_fillOfSet mk_X5_fillOfSet ml_X6_224 ⟨Nat.le_of_ble_eq_true rfl, Nat.le_of_ble_eq_true rfl⟩ rfl (Nat.le_of_ble_eq_true rfl) (g_rv hX.now rfl) ⟨rfl, rfl⟩ (c_X5_fillOfSet hX.now hK.2.2.1 hK.2.2.2.1) ?_
      refine st_ireturn dX6_pack_75 rfl ?_
      refine ⟨?_, rfl, hX, hF⟩
      rw [packS, if_pos h1, if_pos (zI_1.mp c_17), hjc]
      simp_all
    · refine st_iconst (q := 21) dX6_pack_20 rfl ic_m1 ?_
      refine st_ireturn dX6_pack_21 rfl ?_
      first
        | exact ⟨by rw [packS, if_neg (by rw [← hK.1, zI_0.mp c_8]; decide)], rfl, hX, hF⟩
        | exact ⟨by rw [packS, if_pos (by rw [← hK.1]; exact zI_1.mp c_8), if_neg (by rw [zI_0.mp c_17]; decide)], rfl, hX, hF⟩
