def seeS (sz : Nat) (x y : Int32) : Int32 := if inI x 0 20 = true then (if inI y 0 999 = true then (if sz < 6 then nI (sz + 1) else -3) else -1) else -1
def seeT (S : gT) (sz : Nat) (x y : Int32) : gT := if inI x 0 20 = true then (if inI y 0 999 = true then sgT S sz x y else S) else S
def fogS (sz : Nat) (x : Int32) : Int32 := if inI x 0 (nI sz) = true then nI sz else -1
def fogT (S : gT) (sz : Nat) (x : Int32) : gT := if inI x 0 (nI sz) = true then tup S 2 0 x else S
set_option maxRecDepth 100000 in
set_option maxHeartbeats 4000000 in
theorem c_X6_see {E : ev_E} {X Tn : gT} {Ti : Nat → gT} {Tp Sg : gT} {Sh : Nat → gT} {n : Nat} {w : ev_W} {w0 : ev_W} (hF : Fr 0 70 w0 w) (hX : XI X Tn Ti Tp Sg Sh n w) {sz : Nat} (e2 : Sg 2 0 = nI sz) (hs : sz ≤ 6) {x y : Int32} : Ct E mX6_see [.ref 0, .int x, .int y] n w (ev_xr (seeS sz x y) n w0 (XI X Tn Ti Tp (seeT Sg sz x y) Sh n)) := by
  refine Ct.of 0 (by decide) (Nat.le_of_ble_eq_true rfl) rfl ?_
  refine st_iload_n (q := 1) dX6_see_0 rfl rfl rfl ?_
  refine st_iconst (q := 2) dX6_see_1 rfl ic_0 ?_
  refine st_bipush (q := 4) dX6_see_2 rfl bp_20 ?_
  refine sp_S3 (q := 7) (M' := mX6_within) dX6_see_4 rfl ok_X6_within mk_X6_within ml_X6_51 ⟨Nat.le_of_ble_eq_true rfl, Nat.le_of_ble_eq_true rfl⟩ rfl (Nat.le_of_ble_eq_true rfl) ⟨rfl, rfl⟩ (c_X6_within) ?_
  refine st_if_eq (q := 10) (tgt := 21) dX6_see_7 rfl rfl (fun c_7 => ?_) (fun c_7 => ?_)
  · refine st_iconst (q := 22) dX6_see_21 rfl ic_m1 ?_
    refine st_ireturn dX6_see_22 rfl ?_
    first
      | exact ⟨by rw [seeS, if_neg (by rw [zI_0.mp c_7]; decide)], rfl, by rw [seeT, if_neg (by rw [zI_0.mp c_7]; decide)]; exact hX, hF⟩
      | exact ⟨by rw [seeS, if_pos (zI_1.mp c_7), if_neg (by rw [zI_0.mp c_18]; decide)], rfl, by rw [seeT, if_pos (zI_1.mp c_7), if_neg (by rw [zI_0.mp c_18]; decide)]; exact hX, hF⟩
      | (have z := zI_0.mp c_32; simp only [decide_eq_false_iff_not] at z; exact ⟨by rw [seeS, if_pos (zI_1.mp c_7), if_pos (zI_1.mp c_18), if_neg z], rfl, by rw [seeT, if_pos (zI_1.mp c_7), if_pos (zI_1.mp c_18)]; exact hX, hF⟩)
      | (have z := zI_1.mp c_32; simp only [decide_eq_true_eq] at z; exact ⟨by rw [seeS, if_pos (zI_1.mp c_7), if_pos (zI_1.mp c_18), if_pos z, sgT, if_pos z, tup_s, pk_us, e2, ← nI_succ], rfl, by rw [seeT, if_pos (zI_1.mp c_7), if_pos (zI_1.mp c_18)]; exact hX, hF⟩)
  · refine st_iload_n (q := 11) dX6_see_10 rfl rfl rfl ?_
    refine st_iconst (q := 12) dX6_see_11 rfl ic_0 ?_
    refine st_sipush (q := 15) dX6_see_12 rfl sp_999 ?_
    refine sp_S3 (q := 18) (M' := mX6_within) dX6_see_15 rfl ok_X6_within mk_X6_within ml_X6_51 ⟨Nat.le_of_ble_eq_true rfl, Nat.le_of_ble_eq_true rfl⟩ rfl (Nat.le_of_ble_eq_true rfl) ⟨rfl, rfl⟩ (c_X6_within) ?_
    refine st_if_ne (q := 21) (tgt := 23) dX6_see_18 rfl rfl (fun c_18 => ?_) (fun c_18 => ?_)
    · refine st_aload_n (q := 24) dX6_see_23 rfl rfl rfl ?_
      refine g_getO (q := 27) dX6_see_24 rfl fl_X6_33.g hX.x rfl ?_
      refine st_iload_n (q := 28) dX6_see_27 rfl rfl rfl ?_
      refine st_iload_n (q := 29) dX6_see_28 rfl rfl rfl ?_
      refine sm_V2 (q := 32) (M' := mX3_addSighting) dX6_see_29 rfl ok_X3_addSighting mk_X3_addSighting ml_X6_271 ⟨Nat.le_of_ble_eq_true rfl, Nat.le_of_ble_eq_true rfl⟩ rfl (Nat.le_of_ble_eq_true rfl) (g_rv hX.sg rfl) ⟨rfl, rfl⟩ (c_X3_addSighting hX.sg e2 hs) ?_
      intro _ n w h9 _
      obtain ⟨rfl, rfl, hZ, hF_⟩ := h9
      replace hX := hX.setSg hZ hF_
      replace hF := Fr.tr hF (hF_.mono (by omega) (by omega))
      refine st_if_eq (q := 35) (tgt := 45) dX6_see_32 rfl rfl (fun c_32 => ?_) (fun c_32 => ?_)
      · refine st_bipush (q := 47) dX6_see_45 rfl bp_m3 ?_
        refine st_ireturn dX6_see_47 rfl ?_
        first
          | exact ⟨by rw [seeS, if_neg (by rw [zI_0.mp c_7]; decide)], rfl, by rw [seeT, if_neg (by rw [zI_0.mp c_7]; decide)]; exact hX, hF⟩
          | exact ⟨by rw [seeS, if_pos (zI_1.mp c_7), if_neg (by rw [zI_0.mp c_18]; decide)], rfl, by rw [seeT, if_pos (zI_1.mp c_7), if_neg (by rw [zI_0.mp c_18]; decide)]; exact hX, hF⟩
          | (have z := zI_0.mp c_32; simp only [decide_eq_false_iff_not] at z; exact ⟨by rw [seeS, if_pos (zI_1.mp c_7), if_pos (zI_1.mp c_18), if_neg z], rfl, by rw [seeT, if_pos (zI_1.mp c_7), if_pos (zI_1.mp c_18)]; exact hX, hF⟩)
          | (have z := zI_1.mp c_32; simp only [decide_eq_true_eq] at z; exact ⟨by rw [seeS, if_pos (zI_1.mp c_7), if_pos (zI_1.mp c_18), if_pos z, sgT, if_pos z, tup_s, pk_us, e2, ← nI_succ], rfl, by rw [seeT, if_pos (zI_1.mp c_7), if_pos (zI_1.mp c_18)]; exact hX, hF⟩)
      · refine st_aload_n (q := 36) dX6_see_35 rfl rfl rfl ?_
        refine g_getO (q := 39) dX6_see_36 rfl fl_X6_33.g hX.x rfl ?_
        refine g_get (q := 42) dX6_see_39 rfl fl_X6_89.g hX.sg rfl ?_
        refine st_goto (q := 47) dX6_see_42 rfl ?_
        refine st_ireturn dX6_see_47 rfl ?_
        first
          | exact ⟨by rw [seeS, if_neg (by rw [zI_0.mp c_7]; decide)], rfl, by rw [seeT, if_neg (by rw [zI_0.mp c_7]; decide)]; exact hX, hF⟩
          | exact ⟨by rw [seeS, if_pos (zI_1.mp c_7), if_neg (by rw [zI_0.mp c_18]; decide)], rfl, by rw [seeT, if_pos (zI_1.mp c_7), if_neg (by rw [zI_0.mp c_18]; decide)]; exact hX, hF⟩
          | (have z := zI_0.mp c_32; simp only [decide_eq_false_iff_not] at z; exact ⟨by rw [seeS, if_pos (zI_1.mp c_7), if_pos (zI_1.mp c_18), if_neg z], rfl, by rw [seeT, if_pos (zI_1.mp c_7), if_pos (zI_1.mp c_18)]; exact hX, hF⟩)
          | (have z := zI_1.mp c_32; simp only [decide_eq_true_eq] at z; exact ⟨by rw [seeS, if_pos (zI_1.mp c_7), if_pos (zI_1.mp c_18), if_pos z, sgT, if_pos z, tup_s, pk_us, e2, ← nI_succ], rfl, by rw [seeT, if_pos (zI_1.mp c_7), if_pos (zI_1.mp c_18)]; exact hX, hF⟩)
    · refine st_iconst (q := 22) dX6_see_21 rfl ic_m1 ?_
      refine st_ireturn dX6_see_22 rfl ?_
      first
        | exact ⟨by rw [seeS, if_neg (by rw [zI_0.mp c_7]; decide)], rfl, by rw [seeT, if_neg (by rw [zI_0.mp c_7]; decide)]; exact hX, hF⟩
        | exact ⟨by rw [seeS, if_pos (zI_1.mp c_7), if_neg (by rw [zI_0.mp c_18]; decide)], rfl, by rw [seeT, if_pos (zI_1.mp c_7), if_neg (by rw [zI_0.mp c_18]; decide)]; exact hX, hF⟩
        | (have z := zI_0.mp c_32; simp only [decide_eq_false_iff_not] at z; exact ⟨by rw [seeS, if_pos (zI_1.mp c_7), if_pos (zI_1.mp c_18), if_neg z], rfl, by rw [seeT, if_pos (zI_1.mp c_7), if_pos (zI_1.mp c_18)]; exact hX, hF⟩)
        | (have z := zI_1.mp c_32; simp only [decide_eq_true_eq] at z; exact ⟨by rw [seeS, if_pos (zI_1.mp c_7), if_pos (zI_1.mp c_18), if_pos z, sgT, if_pos z, tup_s, pk_us, e2, ← nI_succ], rfl, by rw [seeT, if_pos (zI_1.mp c_7), if_pos (zI_1.mp c_18)]; exact hX, hF⟩)
set_option maxRecDepth 100000 in
set_option maxHeartbeats 4000000 in
theorem c_X6_forget {E : ev_E} {X Tn : gT} {Ti : Nat → gT} {Tp Sg : gT} {Sh : Nat → gT} {n : Nat} {w : ev_W} {w0 : ev_W} (hF : Fr 0 70 w0 w) (hX : XI X Tn Ti Tp Sg Sh n w) {sz : Nat} (e2 : Sg 2 0 = nI sz) (hs : sz ≤ 6) {x : Int32} : Ct E mX6_forget [.ref 0, .int x] n w (ev_xr (fogS sz x) n w0 (XI X Tn Ti Tp (fogT Sg sz x) Sh n)) := by
  refine Ct.of 1 (by decide) (Nat.le_of_ble_eq_true rfl) rfl ?_
  refine st_iload_n (q := 1) dX6_forget_0 rfl rfl rfl ?_
  refine st_iconst (q := 2) dX6_forget_1 rfl ic_0 ?_
  refine st_aload_n (q := 3) dX6_forget_2 rfl rfl rfl ?_
  refine g_getO (q := 6) dX6_forget_3 rfl fl_X6_33.g hX.x rfl ?_
  refine g_get (q := 9) dX6_forget_6 rfl fl_X6_89.g hX.sg rfl ?_
  refine sp_S3 (q := 12) (M' := mX6_within) dX6_forget_9 rfl ok_X6_within mk_X6_within ml_X6_51 ⟨Nat.le_of_ble_eq_true rfl, Nat.le_of_ble_eq_true rfl⟩ rfl (Nat.le_of_ble_eq_true rfl) ⟨rfl, rfl⟩ (c_X6_within) ?_
  rw [e2]
  refine st_if_ne (q := 15) (tgt := 17) dX6_forget_12 rfl rfl (fun c_12 => ?_) (fun c_12 => ?_)
  · refine st_aload_n (q := 18) dX6_forget_17 rfl rfl rfl ?_
    refine g_getO (q := 21) dX6_forget_18 rfl fl_X6_33.g hX.x rfl ?_
    refine g_get (q := 24) dX6_forget_21 rfl fl_X6_89.g hX.sg rfl ?_
    refine st_istore_n (q := 25) (L' := [_, _, _]) dX6_forget_24 rfl rfl (Nat.le_of_ble_eq_true rfl) rfl ?_
    refine st_aload_n (q := 26) dX6_forget_25 rfl rfl rfl ?_
    refine g_getO (q := 29) dX6_forget_26 rfl fl_X6_33.g hX.x rfl ?_
    refine st_iload_n (q := 30) dX6_forget_29 rfl rfl rfl ?_
    refine g_put (q := 33) dX6_forget_30 rfl fl_X6_89 gkX3 hX.sg rfl rfl rfl (fun w hZ hF_ => ?_)
    replace hX := hX.setSg hZ hF_
    replace hF := Fr.tr hF (hF_.mono (by omega) (by omega))
    refine st_iload_n (q := 34) dX6_forget_33 rfl rfl rfl ?_
    refine st_ireturn dX6_forget_34 rfl ?_
    first
      | exact ⟨by rw [fogS, if_neg (by rw [zI_0.mp c_12]; decide)], rfl, by rw [fogT, if_neg (by rw [zI_0.mp c_12]; decide)]; exact hX, hF⟩
      | exact ⟨by rw [fogS, if_pos (zI_1.mp c_12), e2], rfl, by rw [fogT, if_pos (zI_1.mp c_12)]; exact hX, hF⟩
  · refine st_iconst (q := 16) dX6_forget_15 rfl ic_m1 ?_
    refine st_ireturn dX6_forget_16 rfl ?_
    first
      | exact ⟨by rw [fogS, if_neg (by rw [zI_0.mp c_12]; decide)], rfl, by rw [fogT, if_neg (by rw [zI_0.mp c_12]; decide)]; exact hX, hF⟩
      | exact ⟨by rw [fogS, if_pos (zI_1.mp c_12), e2], rfl, by rw [fogT, if_pos (zI_1.mp c_12)]; exact hX, hF⟩
theorem XI.setFQ {X Tn : gT} {Ti : Nat → gT} {Tp Sg : gT} {Sh : Nat → gT} {n : Nat} {w : ev_W} (h : XI X Tn Ti Tp Sg Sh n w) {w' : ev_W} {U' T' : gT} (hz : GF U' 59 n w') (hq : TR T' 11 n w') (hf : Fr2 59 (59 + 2) 11 (11 + 10) w w') : XI X Tn Ti Tp Sg Sh n w' := by
  refine ⟨h.hn, ?_, ?_, ?_, ?_, ?_, ?_, ?_, ?_, ?_, ?_, ?_, ?_⟩
  · exact GR.fr gkX6 h.x (fun k h1 h2 => hf k (by omega) (by omega))
  · exact GR.fr gkX5 h.now (fun k h1 h2 => hf k (by omega) (by omega))
  · exact ⟨_, hq⟩
  · exact (by obtain ⟨g, q⟩ := h.ir; exact ⟨g, by rw [hf 21 (by omega) (by omega)]; exact q.1, q.2⟩)
  · exact (fun k hk => GR.fr gkX5 (h.im k hk) (fun j h1 h2 => hf j (by omega) (by omega)))
  · exact GR.fr gkX4 h.tp (fun k h1 h2 => hf k (by omega) (by omega))
  · exact (by obtain ⟨R, q⟩ := h.rd; exact ⟨R, RR.fr q (hf 42 (by omega) (by omega)) (hf 55 (by omega) (by omega))⟩)
  · exact GR.fr gkX3 h.sg (fun k h1 h2 => hf k (by omega) (by omega))
  · exact ⟨_, hz⟩
  · exact (by obtain ⟨g, q⟩ := h.sr; exact ⟨g, by rw [hf 61 (by omega) (by omega)]; exact q.1, q.2⟩)
  · exact (fun k hk => GR.fr gkX2 (h.sh k hk) (fun j h1 h2 => hf j (by omega) (by omega)))
  · exact (by obtain ⟨D, q⟩ := h.dr; exact ⟨D, GR.fr gkX5 q (fun k h1 h2 => hf k (by omega) (by omega))⟩)
theorem faU_at {U T : gT} {dd nh nt r d : Nat} : ∀ {i : Nat}, d < i → faU U T dd nh nt r i 0 (r * 21 + d) = dysT T dd nh nt d 17 0
  | 0, h => absurd h (Nat.not_lt_zero _)
  | i + 1, h => by
    rw [faU, tup_s]
    by_cases e : d = i
    · subst e; rw [pk_us]
    · rw [pk_un (by omega)]; exact faU_at (by omega)
theorem faU_ne {U T : gT} {dd nh nt r j : Nat} : ∀ {i : Nat}, (j < r * 21 ∨ r * 21 + i ≤ j) → faU U T dd nh nt r i 0 j = U 0 j
  | 0, _ => rfl
  | i + 1, h => by rw [faU, tup_s, pk_un (by omega)]; exact faU_ne (by omega)
def SK (S : gT) (sz : Nat) : Prop := S 2 0 = nI sz ∧ sz ≤ 6 ∧ ∀ k, k < sz → ∃ d, d ≤ 20 ∧ S 0 k = nI d
theorem ld_of {S : gT} {sz : Nat} (h : ∀ k, k < sz → ∃ d, d ≤ 20 ∧ S 0 k = nI d) : ∀ j, j ≤ sz → ∃ la, la ≤ 20 ∧ ldF S j = nI la ∧ ∀ k, k < j → (S 0 k).toNatClampNeg ≤ la
  | 0, _ => ⟨0, by decide, rfl, fun k hk => absurd hk (Nat.not_lt_zero _)⟩
  | j + 1, hj => by
    obtain ⟨la, h1, h2, h3⟩ := ld_of h j (by omega)
    obtain ⟨d, h4, h5⟩ := h j (by omega)
    have hc : (nI d).toNatClampNeg = d := nI_clamp (by omega)
    by_cases z : la < d
    · refine ⟨d, h4, ?_, fun k hk => ?_⟩
      · rw [ldF, h2, h5, mxI, if_pos (nI_lt z (by omega))]
      · by_cases e : k = j
        · subst e; rw [h5, hc]; exact Nat.le_refl _
        · have := h3 k (by omega); omega
    · refine ⟨la, h1, ?_, fun k hk => ?_⟩
      · rw [ldF, h2, h5, mxI, if_neg (nI_nlt (by omega) (by omega))]
      · by_cases e : k = j
        · subst e; rw [h5, hc]; omega
        · exact h3 k (by omega)
def seF (S T : gT) (dd nh nt sz : Nat) : Bool := (List.range sz).all (fun k => decide (dysT T dd nh nt (S 0 k).toNatClampNeg 17 0 = S 1 k))
theorem all_cg {f g : Nat → Bool} : ∀ (l : List Nat), (∀ k, k ∈ l → f k = g k) → l.all f = l.all g
  | [], _ => rfl
  | a :: l, h => by rw [List.all_cons, List.all_cons, h a List.mem_cons_self, all_cg l (fun k hk => h k (List.mem_cons_of_mem _ hk))]
theorem bs_cg {p q : Nat → Bool} : ∀ m, (∀ k, k < m → p k = q k) → bsF p m = bsF q m
  | 0, _ => rfl
  | m + 1, h => by rw [bsF, bsF, bs_cg m (fun k hk => h k (by omega)), h m (by omega)]
def GFr (U : gT) (G : Nat → gT) (dd nh nt la m : Nat) : Prop := U 1 0 = nI m ∧ ∀ k, k < m → ∀ d, d ≤ la → U 0 (k * 21 + d) = dysT (G k) dd nh nt d 17 0
theorem GFr.z {U : gT} {G : Nat → gT} {dd nh nt la : Nat} : GFr (tup U 1 0 0) G dd nh nt la 0 := ⟨by rw [tup_s, pk_us]; rfl, fun k hk => absurd hk (Nat.not_lt_zero k)⟩
theorem GFr.app {U : gT} {G : Nat → gT} {dd nh nt la m : Nat} (h : GFr U G dd nh nt la m) (hla : la ≤ 20) : GFr (tup (faU U (G m) dd nh nt m (la + 1)) 1 0 (nI m + 1)) G dd nh nt la (m + 1) := by
  refine ⟨by rw [tup_s, pk_us, ← nI_succ], fun k hk d hd => ?_⟩
  rw [tup_n (by decide)]
  by_cases e : k = m
  · subst e; rw [faU_at (by omega)]
  · rw [faU_ne (by omega), h.2 k (by omega) d hd]
theorem GFr.bs {S U : gT} {G : Nat → gT} {dd nh nt la m sz : Nat} (h : GFr U G dd nh nt la m) (hl : ∀ k, k < sz → (S 0 k).toNatClampNeg ≤ la) : bsF (agF S U sz) m = bsF (fun r => seF S (G r) dd nh nt sz) m := by
  refine bs_cg m (fun r hr => ?_)
  unfold agF seF
  refine all_cg _ (fun k hk => ?_)
  rw [h.2 r hr _ (hl k (List.mem_range.mp hk))]
theorem vp_in20 {x : Int32} {d : Nat} (h : d ≤ 20) (e : x = nI d) : vp_in x 21 := by subst e; exact vp_in_nI (by omega) (by decide)
theorem SK.vp {S : gT} {sz : Nat} (h : SK S sz) : ∀ k, k < sz → vp_in (S 0 k) 21 := fun k hk => by obtain ⟨d, h1, h2⟩ := h.2.2 k hk; exact vp_in20 h1 h2
theorem SK.l20 {S : gT} {sz : Nat} (h : SK S sz) : ∀ k, k < sz → (S 0 k).toNatClampNeg ≤ 20 := fun k hk => by
  obtain ⟨d, h1, h2⟩ := h.2.2 k hk
  rw [h2, nI_clamp (by omega)]
  exact h1
theorem Fr.two {w w' w'' : ev_W} {lo hi a b c d : Nat} (h : Fr lo hi w w') (h' : Fr2 a b c d w' w'') (h1 : lo ≤ a ∧ b ≤ hi) (h2 : lo ≤ c ∧ d ≤ hi) : Fr lo hi w w'' := fun k hk => (h' k (by omega) (by omega)).trans (h k hk)
def rmI (S T : gT) (nh nt dd sz j : Nat) : Int32 := bsF (fun r => seF S (tup T 2 j (nI r)) dd nh nt sz) 31
def kindsS (S T : gT) (nh nt dd sz : Nat) (x : Int32) : Int32 := if inI x 0 (nI nt - 1) = true then bsF (fun r => seF S (tup T 7 x.toNatClampNeg (nI r)) dd nh nt sz) 4 else -1
def leaksS (S T : gT) (nh nt dd sz : Nat) (x : Int32) : Int32 := if inI x 0 (nI nh - 1) = true then bsF (fun r => seF S (tup T 3 x.toNatClampNeg (nI r)) dd nh nt sz) 4 else -1
def roomsS (S T : gT) (nh nt dd sz : Nat) (x : Int32) : Int32 := if inI x 0 (nI nh - 1) = true then rmI S T nh nt dd sz x.toNatClampNeg else -1
set_option maxRecDepth 100000 in
set_option maxHeartbeats 4000000 in
theorem c_X6_kinds {E : ev_E} {X Tn : gT} {Ti : Nat → gT} {Tp Sg : gT} {Sh : Nat → gT} {n : Nat} {w : ev_W} {w0 : ev_W} (hF : Fr 0 70 w0 w) (hX : XI X Tn Ti Tp Sg Sh n w) {nh nt dd : Nat} (hK : TK Tn nh nt dd) {sz : Nat} (hS : SK Sg sz) {x : Int32} : Ct E mX6_kinds [.ref 0, .int x] n w (ev_xr (kindsS Sg Tn nh nt dd sz x) n w0 (XI X Tn Ti Tp Sg Sh n)) := by
  refine Ct.of 2 (by decide) (Nat.le_of_ble_eq_true rfl) rfl ?_
  have hd9 := hK.2.2.2.2.2.2
  obtain ⟨U, hFu⟩ := hX.fu
  obtain ⟨la, hla, ela, hlb⟩ := ld_of hS.2.2 sz (Nat.le_refl _)
  refine st_aload_n (q := 1) dX6_kinds_0 rfl rfl rfl ?_
  refine g_getO (q := 4) dX6_kinds_1 rfl fl_X6_10.g hX.x rfl ?_
  refine st_iload_n (q := 5) dX6_kinds_4 rfl rfl rfl ?_
  refine sp_V1 (q := 8) (M' := mX5_isThing) dX6_kinds_5 rfl ok_X5_isThing mk_X5_isThing ml_X6_136 ⟨Nat.le_of_ble_eq_true rfl, Nat.le_of_ble_eq_true rfl⟩ rfl (Nat.le_of_ble_eq_true rfl) (g_rv hX.now rfl) ⟨rfl, rfl⟩ (c_X5_isThing hX.now) ?_
  refine st_if_ne (q := 11) (tgt := 13) dX6_kinds_8 rfl rfl (fun c_8 => ?_) (fun c_8 => ?_)
  · obtain ⟨j, hj, rfl⟩ := inI_ix (by rw [← hK.2.2.1]; exact zI_1.mp c_8) (by have := hK.2.2.2.1; omega)
    have h1 : inI (nI j) 0 (nI nt - 1) = true := by rw [← hK.2.2.1]; exact zI_1.mp c_8
    have hjc : (nI j).toNatClampNeg = j := nI_clamp (by have := hK.2.2.2.1; omega)
    have hK4 := hK.2.2.2.1
    refine st_aload_n (q := 14) dX6_kinds_13 rfl rfl rfl ?_
    refine g_getO (q := 17) dX6_kinds_14 rfl fl_X6_40.g hX.x rfl ?_
    refine sm_V0 (q := 20) (M' := mX0_empty) dX6_kinds_17 rfl ok_X0_empty mk_X0_empty ml_X6_274 ⟨Nat.le_of_ble_eq_true rfl, Nat.le_of_ble_eq_true rfl⟩ rfl (Nat.le_of_ble_eq_true rfl) (g_rv hFu rfl) ⟨rfl, rfl⟩ (c_X0_empty hFu) ?_
    intro _ n w h9 _
    obtain ⟨rfl, rfl, hFu, hF_⟩ := h9
    replace hX := hX.setFu hFu hF_
    replace hF := Fr.tr hF (hF_.mono (by omega) (by omega))
    refine st_iconst (q := 21) dX6_kinds_20 rfl ic_0 ?_
    refine st_istore_n (q := 22) (L' := [_, _, _, _]) dX6_kinds_21 rfl rfl (Nat.le_of_ble_eq_true rfl) rfl ?_
    have lp : ∀ (k i : Nat), i + k = 4 → ∀ (w1 : ev_W) (U : gT) (lb : Option Value), XI X Tn Ti Tp Sg Sh n w1 → Fr 0 70 w0 w1 → GF U 59 n w1 → GFr U (fun r => tup Tn 7 j (nI r)) dd nh nt la i → Ev E mX6_kinds 22 [some (.ref 0), some (.int (nI j)), some (.int (nI i)), lb] [] n w1 (0, 0) (ev_xr (kindsS Sg Tn nh nt dd sz (nI j)) n w0 (XI X Tn Ti Tp Sg Sh n)) := by
      clear hX hF hFu
      intro k
      induction k with
      | zero =>
        intro i hi w U lb hX hF hFu hU
        obtain rfl : i = 4 := hi
        refine st_iload_n (q := 23) dX6_kinds_22 rfl rfl rfl ?_
        refine st_iconst (q := 24) dX6_kinds_23 rfl ic_3 ?_
        refine st_icmp_gt (q := 27) (tgt := 60) dX6_kinds_24 rfl rfl (fun c_24 => ?_) (fun c_24 => False.elim (c_24 (by decide)))
        refine st_aload_n (q := 61) dX6_kinds_60 rfl rfl rfl ?_
        refine g_getO (q := 64) dX6_kinds_61 rfl fl_X6_33.g hX.x rfl ?_
        refine st_aload_n (q := 65) dX6_kinds_64 rfl rfl rfl ?_
        refine g_getO (q := 68) dX6_kinds_65 rfl fl_X6_40.g hX.x rfl ?_
        refine sp_V1 (q := 71) (M' := mX3_rowsAsSeen) dX6_kinds_68 rfl ok_X3_rowsAsSeen mk_X3_rowsAsSeen ml_X6_284 ⟨Nat.le_of_ble_eq_true rfl, Nat.le_of_ble_eq_true rfl⟩ rfl (Nat.le_of_ble_eq_true rfl) (g_rv hX.sg rfl) ⟨rfl, rfl⟩ (c_X3_rowsAsSeen hX.sg hS.1 hS.2.1 hFu hS.vp hU.1 (by omega)) ?_
        refine st_ireturn dX6_kinds_71 rfl ?_
        exact ⟨by rw [kindsS, if_pos h1, hjc, hU.bs hlb], rfl, hX, hF⟩
      | succ k ih =>
        intro i hi w U lb hX hF hFu hU
        refine st_iload_n (q := 23) dX6_kinds_22 rfl rfl rfl ?_
        refine st_iconst (q := 24) dX6_kinds_23 rfl ic_3 ?_
        refine st_icmp_gt (q := 27) (tgt := 60) dX6_kinds_24 rfl rfl (fun c_24 => False.elim (absurd c_24 (nI_nlt (a := 3) (b := i) (by omega) (by omega)))) (fun c_24 => ?_)
        refine st_aload_n (q := 28) dX6_kinds_27 rfl rfl rfl ?_
        refine sm_V0 (q := 31) (M' := mX6_copyOfNow) dX6_kinds_28 rfl ok_X6_copyOfNow mk_X6_copyOfNow ml_X6_196 ⟨Nat.le_of_ble_eq_true rfl, Nat.le_of_ble_eq_true rfl⟩ rfl (Nat.le_of_ble_eq_true rfl) (g_rv hX.x rfl) ⟨rfl, rfl⟩ (c_X6_copyOfNow hX) ?_
        intro _ n w h9 _
        obtain ⟨rfl, rfl, hX, hQ, hF_⟩ := h9
        replace hF := Fr.tr hF (hF_.mono (by omega) (by omega))
        replace hFu := GR.fr gkX0 hFu (fun k h1 h2 => hF_ k (by omega))
        refine st_astore_n (q := 32) (L' := [_, _, _, _]) dX6_kinds_31 rfl rfl (Nat.le_of_ble_eq_true rfl) rfl ?_
        refine st_aload_n (q := 33) dX6_kinds_32 rfl rfl rfl ?_
        refine g_getA (q := 36) dX6_kinds_33 rfl fl_X6_139 hQ rfl ?_
        refine st_iload_n (q := 37) dX6_kinds_36 rfl rfl rfl ?_
        refine st_iload_n (q := 38) dX6_kinds_37 rfl rfl rfl ?_
        refine g_iast (q := 39) dX6_kinds_38 rfl gkX5 hQ (i := 7) rfl (by exact ev_ix_nI (j := j) (by omega) (by decide)) (fun w hQ hF_ => ?_)
        replace hFu := GR.fr gkX0 hFu (fun k h1 h2 => hF_ k (by omega))
        replace hX := hX.setTrial hQ hF_
        replace hF := Fr.tr hF (hF_.mono (by omega) (by omega))
        refine st_aload_n (q := 40) dX6_kinds_39 rfl rfl rfl ?_
        refine g_getO (q := 43) dX6_kinds_40 rfl fl_X6_40.g hX.x rfl ?_
        refine st_aload_n (q := 44) dX6_kinds_43 rfl rfl rfl ?_
        refine st_aload_n (q := 45) dX6_kinds_44 rfl rfl rfl ?_
        refine g_getO (q := 48) dX6_kinds_45 rfl fl_X6_33.g hX.x rfl ?_
        refine sp_V0 (q := 51) (M' := mX3_latestDay) dX6_kinds_48 rfl ok_X3_latestDay mk_X3_latestDay ml_X6_277 ⟨Nat.le_of_ble_eq_true rfl, Nat.le_of_ble_eq_true rfl⟩ rfl (Nat.le_of_ble_eq_true rfl) (g_rv hX.sg rfl) ⟨rfl, rfl⟩ (c_X3_latestDay hX.sg hS.1 hS.2.1) ?_
        rw [ela]
        refine sm_V2 (q := 54) (M' := mX0_addRow) dX6_kinds_51 rfl ok_X0_addRow mk_X0_addRow ml_X6_280 ⟨Nat.le_of_ble_eq_true rfl, Nat.le_of_ble_eq_true rfl⟩ rfl (Nat.le_of_ble_eq_true rfl) (g_rv hFu rfl) ⟨rfl, rfl⟩ (c_X0_addRow (R := i) hFu hU.1 (by omega) hQ (by omega) (T := tup Tn 7 j (nI i)) hK.2.2.1 hK.2.2.2.1 hK.1 hK.2.1 hK.2.2.2.2.2.1 (by omega) hla) ?_
        intro _ n w h9 _
        obtain ⟨rfl, rfl, hFu, hQ, hF_⟩ := h9
        replace hX := hX.setFQ hFu hQ hF_
        replace hF := hF.two hF_ (by omega) (by omega)
        refine st_iinc (q := 57) (L' := [_, _, _, _]) dX6_kinds_54 rfl rfl (nI_succ _).symm (Nat.le_of_ble_eq_true rfl) rfl ?_
        refine st_goto (q := 22) dX6_kinds_57 rfl ?_
        exact ih (i + 1) (by omega) w _ _ hX hF hFu (hU.app hla)
    exact lp 4 0 (by omega) w _ _ hX hF hFu GFr.z
  · refine st_iconst (q := 12) dX6_kinds_11 rfl ic_m1 ?_
    refine st_ireturn dX6_kinds_12 rfl ?_
    exact ⟨by rw [kindsS, if_neg (by rw [← hK.2.2.1, zI_0.mp c_8]; decide)], rfl, hX, hF⟩
set_option maxRecDepth 100000 in
set_option maxHeartbeats 4000000 in
theorem c_X6_leaks {E : ev_E} {X Tn : gT} {Ti : Nat → gT} {Tp Sg : gT} {Sh : Nat → gT} {n : Nat} {w : ev_W} {w0 : ev_W} (hF : Fr 0 70 w0 w) (hX : XI X Tn Ti Tp Sg Sh n w) {nh nt dd : Nat} (hK : TK Tn nh nt dd) {sz : Nat} (hS : SK Sg sz) {x : Int32} : Ct E mX6_leaks [.ref 0, .int x] n w (ev_xr (leaksS Sg Tn nh nt dd sz x) n w0 (XI X Tn Ti Tp Sg Sh n)) := by
  refine Ct.of 2 (by decide) (Nat.le_of_ble_eq_true rfl) rfl ?_
  have hd9 := hK.2.2.2.2.2.2
  obtain ⟨U, hFu⟩ := hX.fu
  obtain ⟨la, hla, ela, hlb⟩ := ld_of hS.2.2 sz (Nat.le_refl _)
  refine st_aload_n (q := 1) dX6_leaks_0 rfl rfl rfl ?_
  refine g_getO (q := 4) dX6_leaks_1 rfl fl_X6_10.g hX.x rfl ?_
  refine st_iload_n (q := 5) dX6_leaks_4 rfl rfl rfl ?_
  refine sp_V1 (q := 8) (M' := mX5_isHouse) dX6_leaks_5 rfl ok_X5_isHouse mk_X5_isHouse ml_X6_122 ⟨Nat.le_of_ble_eq_true rfl, Nat.le_of_ble_eq_true rfl⟩ rfl (Nat.le_of_ble_eq_true rfl) (g_rv hX.now rfl) ⟨rfl, rfl⟩ (c_X5_isHouse hX.now) ?_
  refine st_if_ne (q := 11) (tgt := 13) dX6_leaks_8 rfl rfl (fun c_8 => ?_) (fun c_8 => ?_)
  · obtain ⟨j, hj, rfl⟩ := inI_ix (by rw [← hK.1]; exact zI_1.mp c_8) (by have := hK.2.1; omega)
    have h1 : inI (nI j) 0 (nI nh - 1) = true := by rw [← hK.1]; exact zI_1.mp c_8
    have hjc : (nI j).toNatClampNeg = j := nI_clamp (by have := hK.2.1; omega)
    have hK4 := hK.2.1
    refine st_aload_n (q := 14) dX6_leaks_13 rfl rfl rfl ?_
    refine g_getO (q := 17) dX6_leaks_14 rfl fl_X6_40.g hX.x rfl ?_
    refine sm_V0 (q := 20) (M' := mX0_empty) dX6_leaks_17 rfl ok_X0_empty mk_X0_empty ml_X6_274 ⟨Nat.le_of_ble_eq_true rfl, Nat.le_of_ble_eq_true rfl⟩ rfl (Nat.le_of_ble_eq_true rfl) (g_rv hFu rfl) ⟨rfl, rfl⟩ (c_X0_empty hFu) ?_
    intro _ n w h9 _
    obtain ⟨rfl, rfl, hFu, hF_⟩ := h9
    replace hX := hX.setFu hFu hF_
    replace hF := Fr.tr hF (hF_.mono (by omega) (by omega))
    refine st_iconst (q := 21) dX6_leaks_20 rfl ic_0 ?_
    refine st_istore_n (q := 22) (L' := [_, _, _, _]) dX6_leaks_21 rfl rfl (Nat.le_of_ble_eq_true rfl) rfl ?_
    have lp : ∀ (k i : Nat), i + k = 4 → ∀ (w1 : ev_W) (U : gT) (lb : Option Value), XI X Tn Ti Tp Sg Sh n w1 → Fr 0 70 w0 w1 → GF U 59 n w1 → GFr U (fun r => tup Tn 3 j (nI r)) dd nh nt la i → Ev E mX6_leaks 22 [some (.ref 0), some (.int (nI j)), some (.int (nI i)), lb] [] n w1 (0, 0) (ev_xr (leaksS Sg Tn nh nt dd sz (nI j)) n w0 (XI X Tn Ti Tp Sg Sh n)) := by
      clear hX hF hFu
      intro k
      induction k with
      | zero =>
        intro i hi w U lb hX hF hFu hU
        obtain rfl : i = 4 := hi
        refine st_iload_n (q := 23) dX6_leaks_22 rfl rfl rfl ?_
        refine st_iconst (q := 24) dX6_leaks_23 rfl ic_3 ?_
        refine st_icmp_gt (q := 27) (tgt := 60) dX6_leaks_24 rfl rfl (fun c_24 => ?_) (fun c_24 => False.elim (c_24 (by decide)))
        refine st_aload_n (q := 61) dX6_leaks_60 rfl rfl rfl ?_
        refine g_getO (q := 64) dX6_leaks_61 rfl fl_X6_33.g hX.x rfl ?_
        refine st_aload_n (q := 65) dX6_leaks_64 rfl rfl rfl ?_
        refine g_getO (q := 68) dX6_leaks_65 rfl fl_X6_40.g hX.x rfl ?_
        refine sp_V1 (q := 71) (M' := mX3_rowsAsSeen) dX6_leaks_68 rfl ok_X3_rowsAsSeen mk_X3_rowsAsSeen ml_X6_284 ⟨Nat.le_of_ble_eq_true rfl, Nat.le_of_ble_eq_true rfl⟩ rfl (Nat.le_of_ble_eq_true rfl) (g_rv hX.sg rfl) ⟨rfl, rfl⟩ (c_X3_rowsAsSeen hX.sg hS.1 hS.2.1 hFu hS.vp hU.1 (by omega)) ?_
        refine st_ireturn dX6_leaks_71 rfl ?_
        exact ⟨by rw [leaksS, if_pos h1, hjc, hU.bs hlb], rfl, hX, hF⟩
      | succ k ih =>
        intro i hi w U lb hX hF hFu hU
        refine st_iload_n (q := 23) dX6_leaks_22 rfl rfl rfl ?_
        refine st_iconst (q := 24) dX6_leaks_23 rfl ic_3 ?_
        refine st_icmp_gt (q := 27) (tgt := 60) dX6_leaks_24 rfl rfl (fun c_24 => False.elim (absurd c_24 (nI_nlt (a := 3) (b := i) (by omega) (by omega)))) (fun c_24 => ?_)
        refine st_aload_n (q := 28) dX6_leaks_27 rfl rfl rfl ?_
        refine sm_V0 (q := 31) (M' := mX6_copyOfNow) dX6_leaks_28 rfl ok_X6_copyOfNow mk_X6_copyOfNow ml_X6_196 ⟨Nat.le_of_ble_eq_true rfl, Nat.le_of_ble_eq_true rfl⟩ rfl (Nat.le_of_ble_eq_true rfl) (g_rv hX.x rfl) ⟨rfl, rfl⟩ (c_X6_copyOfNow hX) ?_
        intro _ n w h9 _
        obtain ⟨rfl, rfl, hX, hQ, hF_⟩ := h9
        replace hF := Fr.tr hF (hF_.mono (by omega) (by omega))
        replace hFu := GR.fr gkX0 hFu (fun k h1 h2 => hF_ k (by omega))
        refine st_astore_n (q := 32) (L' := [_, _, _, _]) dX6_leaks_31 rfl rfl (Nat.le_of_ble_eq_true rfl) rfl ?_
        refine st_aload_n (q := 33) dX6_leaks_32 rfl rfl rfl ?_
        refine g_getA (q := 36) dX6_leaks_33 rfl fl_X6_238 hQ rfl ?_
        refine st_iload_n (q := 37) dX6_leaks_36 rfl rfl rfl ?_
        refine st_iload_n (q := 38) dX6_leaks_37 rfl rfl rfl ?_
        refine g_iast (q := 39) dX6_leaks_38 rfl gkX5 hQ (i := 3) rfl (by exact ev_ix_nI (j := j) (by omega) (by decide)) (fun w hQ hF_ => ?_)
        replace hFu := GR.fr gkX0 hFu (fun k h1 h2 => hF_ k (by omega))
        replace hX := hX.setTrial hQ hF_
        replace hF := Fr.tr hF (hF_.mono (by omega) (by omega))
        refine st_aload_n (q := 40) dX6_leaks_39 rfl rfl rfl ?_
        refine g_getO (q := 43) dX6_leaks_40 rfl fl_X6_40.g hX.x rfl ?_
        refine st_aload_n (q := 44) dX6_leaks_43 rfl rfl rfl ?_
        refine st_aload_n (q := 45) dX6_leaks_44 rfl rfl rfl ?_
        refine g_getO (q := 48) dX6_leaks_45 rfl fl_X6_33.g hX.x rfl ?_
        refine sp_V0 (q := 51) (M' := mX3_latestDay) dX6_leaks_48 rfl ok_X3_latestDay mk_X3_latestDay ml_X6_277 ⟨Nat.le_of_ble_eq_true rfl, Nat.le_of_ble_eq_true rfl⟩ rfl (Nat.le_of_ble_eq_true rfl) (g_rv hX.sg rfl) ⟨rfl, rfl⟩ (c_X3_latestDay hX.sg hS.1 hS.2.1) ?_
        rw [ela]
        refine sm_V2 (q := 54) (M' := mX0_addRow) dX6_leaks_51 rfl ok_X0_addRow mk_X0_addRow ml_X6_280 ⟨Nat.le_of_ble_eq_true rfl, Nat.le_of_ble_eq_true rfl⟩ rfl (Nat.le_of_ble_eq_true rfl) (g_rv hFu rfl) ⟨rfl, rfl⟩ (c_X0_addRow (R := i) hFu hU.1 (by omega) hQ (by omega) (T := tup Tn 3 j (nI i)) hK.2.2.1 hK.2.2.2.1 hK.1 hK.2.1 hK.2.2.2.2.2.1 (by omega) hla) ?_
        intro _ n w h9 _
        obtain ⟨rfl, rfl, hFu, hQ, hF_⟩ := h9
        replace hX := hX.setFQ hFu hQ hF_
        replace hF := hF.two hF_ (by omega) (by omega)
        refine st_iinc (q := 57) (L' := [_, _, _, _]) dX6_leaks_54 rfl rfl (nI_succ _).symm (Nat.le_of_ble_eq_true rfl) rfl ?_
        refine st_goto (q := 22) dX6_leaks_57 rfl ?_
        exact ih (i + 1) (by omega) w _ _ hX hF hFu (hU.app hla)
    exact lp 4 0 (by omega) w _ _ hX hF hFu GFr.z
  · refine st_iconst (q := 12) dX6_leaks_11 rfl ic_m1 ?_
    refine st_ireturn dX6_leaks_12 rfl ?_
    exact ⟨by rw [leaksS, if_neg (by rw [← hK.1, zI_0.mp c_8]; decide)], rfl, hX, hF⟩
set_option maxRecDepth 100000 in
set_option maxHeartbeats 4000000 in
theorem c_X6_tellRooms {E : ev_E} {X Tn : gT} {Ti : Nat → gT} {Tp Sg : gT} {Sh : Nat → gT} {n : Nat} {w : ev_W} {w0 : ev_W} (hF : Fr 0 70 w0 w) (hX : XI X Tn Ti Tp Sg Sh n w) {nh nt dd : Nat} (hK : TK Tn nh nt dd) {j : Nat} (hj : j < 4) {la : Nat} (hla : la ≤ 20) : Ct E mX6_tellRooms [.ref 0, .int (nI j), .int (nI la)] n w (fun a m u => a = none ∧ m = n ∧ (XI X Tn Ti Tp Sg Sh n u ∧ ∃ U, GF U 59 n u ∧ GFr U (fun r => tup Tn 2 j (nI r)) dd nh nt la 31) ∧ Fr 0 70 w0 u) := by
  refine Ct.of 2 (by decide) (Nat.le_of_ble_eq_true rfl) rfl ?_
  have hd9 := hK.2.2.2.2.2.2
  obtain ⟨U, hFu⟩ := hX.fu
  refine st_aload_n (q := 1) dX6_tellRooms_0 rfl rfl rfl ?_
  refine g_getO (q := 4) dX6_tellRooms_1 rfl fl_X6_40.g hX.x rfl ?_
  refine sm_V0 (q := 7) (M' := mX0_empty) dX6_tellRooms_4 rfl ok_X0_empty mk_X0_empty ml_X6_274 ⟨Nat.le_of_ble_eq_true rfl, Nat.le_of_ble_eq_true rfl⟩ rfl (Nat.le_of_ble_eq_true rfl) (g_rv hFu rfl) ⟨rfl, rfl⟩ (c_X0_empty hFu) ?_
  intro _ n w h9 _
  obtain ⟨rfl, rfl, hFu, hF_⟩ := h9
  replace hX := hX.setFu hFu hF_
  replace hF := Fr.tr hF (hF_.mono (by omega) (by omega))
  refine st_iconst (q := 8) dX6_tellRooms_7 rfl ic_0 ?_
  refine st_istore_n (q := 9) (L' := [_, _, _, _, _]) dX6_tellRooms_8 rfl rfl (Nat.le_of_ble_eq_true rfl) rfl ?_
  have lp : ∀ (k i : Nat), i + k = 31 → ∀ (w1 : ev_W) (U : gT) (lb : Option Value), XI X Tn Ti Tp Sg Sh n w1 → Fr 0 70 w0 w1 → GF U 59 n w1 → GFr U (fun r => tup Tn 2 j (nI r)) dd nh nt la i → Ev E mX6_tellRooms 9 [some (.ref 0), some (.int (nI j)), some (.int (nI la)), some (.int (nI i)), lb] [] n w1 (0, 0) (fun a m u => a = none ∧ m = n ∧ (XI X Tn Ti Tp Sg Sh n u ∧ ∃ U, GF U 59 n u ∧ GFr U (fun r => tup Tn 2 j (nI r)) dd nh nt la 31) ∧ Fr 0 70 w0 u) := by
    clear hX hF hFu
    intro k
    induction k with
    | zero =>
      intro i hi w U lb hX hF hFu hU
      obtain rfl : i = 31 := hi
      refine st_iload_n (q := 10) dX6_tellRooms_9 rfl rfl rfl ?_
      refine st_bipush (q := 12) dX6_tellRooms_10 rfl bp_31 ?_
      refine st_icmp_ge (q := 15) (tgt := 45) dX6_tellRooms_12 rfl rfl (fun c_12 => ?_) (fun c_12 => False.elim (c_12 (by decide)))
      refine st_return dX6_tellRooms_45 rfl ?_
      exact ⟨rfl, rfl, ⟨hX, U, hFu, hU⟩, hF⟩
    | succ k ih =>
      intro i hi w U lb hX hF hFu hU
      refine st_iload_n (q := 10) dX6_tellRooms_9 rfl rfl rfl ?_
      refine st_bipush (q := 12) dX6_tellRooms_10 rfl bp_31 ?_
      refine st_icmp_ge (q := 15) (tgt := 45) dX6_tellRooms_12 rfl rfl (fun c_12 => False.elim (absurd c_12 (nI_ge (a := i) (b := 31) (by omega) (by omega)))) (fun c_12 => ?_)
      refine st_aload_n (q := 16) dX6_tellRooms_15 rfl rfl rfl ?_
      refine sm_V0 (q := 19) (M' := mX6_copyOfNow) dX6_tellRooms_16 rfl ok_X6_copyOfNow mk_X6_copyOfNow ml_X6_196 ⟨Nat.le_of_ble_eq_true rfl, Nat.le_of_ble_eq_true rfl⟩ rfl (Nat.le_of_ble_eq_true rfl) (g_rv hX.x rfl) ⟨rfl, rfl⟩ (c_X6_copyOfNow hX) ?_
      intro _ n w h9 _
      obtain ⟨rfl, rfl, hX, hQ, hF_⟩ := h9
      replace hF := Fr.tr hF (hF_.mono (by omega) (by omega))
      replace hFu := GR.fr gkX0 hFu (fun k h1 h2 => hF_ k (by omega))
      refine st_astore (q := 21) (L' := [_, _, _, _, _]) dX6_tellRooms_19 rfl (Nat.le_of_ble_eq_true rfl) rfl ?_
      refine st_aload (q := 23) dX6_tellRooms_21 rfl rfl ?_
      refine g_getA (q := 26) dX6_tellRooms_23 rfl fl_X6_209 hQ rfl ?_
      refine st_iload_n (q := 27) dX6_tellRooms_26 rfl rfl rfl ?_
      refine st_iload_n (q := 28) dX6_tellRooms_27 rfl rfl rfl ?_
      refine g_iast (q := 29) dX6_tellRooms_28 rfl gkX5 hQ (i := 2) rfl (by exact ev_ix_nI (j := j) (by omega) (by decide)) (fun w hQ hF_ => ?_)
      replace hFu := GR.fr gkX0 hFu (fun k h1 h2 => hF_ k (by omega))
      replace hX := hX.setTrial hQ hF_
      replace hF := Fr.tr hF (hF_.mono (by omega) (by omega))
      refine st_aload_n (q := 30) dX6_tellRooms_29 rfl rfl rfl ?_
      refine g_getO (q := 33) dX6_tellRooms_30 rfl fl_X6_40.g hX.x rfl ?_
      refine st_aload (q := 35) dX6_tellRooms_33 rfl rfl ?_
      refine st_iload_n (q := 36) dX6_tellRooms_35 rfl rfl rfl ?_
      refine sm_V2 (q := 39) (M' := mX0_addRow) dX6_tellRooms_36 rfl ok_X0_addRow mk_X0_addRow ml_X6_280 ⟨Nat.le_of_ble_eq_true rfl, Nat.le_of_ble_eq_true rfl⟩ rfl (Nat.le_of_ble_eq_true rfl) (g_rv hFu rfl) ⟨rfl, rfl⟩ (c_X0_addRow (R := i) hFu hU.1 (by omega) hQ (by omega) (T := tup Tn 2 j (nI i)) hK.2.2.1 hK.2.2.2.1 hK.1 hK.2.1 hK.2.2.2.2.2.1 (by omega) hla) ?_
      intro _ n w h9 _
      obtain ⟨rfl, rfl, hFu, hQ, hF_⟩ := h9
      replace hX := hX.setFQ hFu hQ hF_
      replace hF := hF.two hF_ (by omega) (by omega)
      refine st_iinc (q := 42) (L' := [_, _, _, _, _]) dX6_tellRooms_39 rfl rfl (nI_succ _).symm (Nat.le_of_ble_eq_true rfl) rfl ?_
      refine st_goto (q := 9) dX6_tellRooms_42 rfl ?_
      exact ih (i + 1) (by omega) w _ _ hX hF hFu (hU.app hla)
  exact lp 31 0 (by omega) w _ _ hX hF hFu GFr.z
set_option maxRecDepth 100000 in
set_option maxHeartbeats 4000000 in
theorem c_X6_rooms {E : ev_E} {X Tn : gT} {Ti : Nat → gT} {Tp Sg : gT} {Sh : Nat → gT} {n : Nat} {w : ev_W} {w0 : ev_W} (hF : Fr 0 70 w0 w) (hX : XI X Tn Ti Tp Sg Sh n w) {nh nt dd : Nat} (hK : TK Tn nh nt dd) {sz : Nat} (hS : SK Sg sz) {x : Int32} : Ct E mX6_rooms [.ref 0, .int x] n w (ev_xr (roomsS Sg Tn nh nt dd sz x) n w0 (XI X Tn Ti Tp Sg Sh n)) := by
  refine Ct.of 0 (by decide) (Nat.le_of_ble_eq_true rfl) rfl ?_
  obtain ⟨la, hla, ela, hlb⟩ := ld_of hS.2.2 sz (Nat.le_refl _)
  refine st_aload_n (q := 1) dX6_rooms_0 rfl rfl rfl ?_
  refine g_getO (q := 4) dX6_rooms_1 rfl fl_X6_10.g hX.x rfl ?_
  refine st_iload_n (q := 5) dX6_rooms_4 rfl rfl rfl ?_
  refine sp_V1 (q := 8) (M' := mX5_isHouse) dX6_rooms_5 rfl ok_X5_isHouse mk_X5_isHouse ml_X6_122 ⟨Nat.le_of_ble_eq_true rfl, Nat.le_of_ble_eq_true rfl⟩ rfl (Nat.le_of_ble_eq_true rfl) (g_rv hX.now rfl) ⟨rfl, rfl⟩ (c_X5_isHouse hX.now) ?_
  refine st_if_ne (q := 11) (tgt := 13) dX6_rooms_8 rfl rfl (fun c_8 => ?_) (fun c_8 => ?_)
  · obtain ⟨j, hj, rfl⟩ := inI_ix (by rw [← hK.1]; exact zI_1.mp c_8) (by have := hK.2.1; omega)
    have h1 : inI (nI j) 0 (nI nh - 1) = true := by rw [← hK.1]; exact zI_1.mp c_8
    have hjc : (nI j).toNatClampNeg = j := nI_clamp (by have := hK.2.1; omega)
    have hK4 := hK.2.1
    refine st_aload_n (q := 14) dX6_rooms_13 rfl rfl rfl ?_
    refine st_iload_n (q := 15) dX6_rooms_14 rfl rfl rfl ?_
    refine st_aload_n (q := 16) dX6_rooms_15 rfl rfl rfl ?_
    refine g_getO (q := 19) dX6_rooms_16 rfl fl_X6_33.g hX.x rfl ?_
    refine sp_V0 (q := 22) (M' := mX3_latestDay) dX6_rooms_19 rfl ok_X3_latestDay mk_X3_latestDay ml_X6_277 ⟨Nat.le_of_ble_eq_true rfl, Nat.le_of_ble_eq_true rfl⟩ rfl (Nat.le_of_ble_eq_true rfl) (g_rv hX.sg rfl) ⟨rfl, rfl⟩ (c_X3_latestDay hX.sg hS.1 hS.2.1) ?_
    rw [ela]
    refine sm_V2 (q := 25) (M' := mX6_tellRooms) dX6_rooms_22 rfl ok_X6_tellRooms mk_X6_tellRooms ml_X6_288 ⟨Nat.le_of_ble_eq_true rfl, Nat.le_of_ble_eq_true rfl⟩ rfl (Nat.le_of_ble_eq_true rfl) (g_rv hX.x rfl) ⟨rfl, rfl⟩ (c_X6_tellRooms Fr.rf hX hK (j := j) (by omega) hla) ?_
    intro _ n w h9 _
    obtain ⟨rfl, rfl, ⟨hX, U, hFu, hU⟩, hF_⟩ := h9
    replace hF := Fr.tr hF hF_
    refine st_aload_n (q := 26) dX6_rooms_25 rfl rfl rfl ?_
    refine g_getO (q := 29) dX6_rooms_26 rfl fl_X6_33.g hX.x rfl ?_
    refine st_aload_n (q := 30) dX6_rooms_29 rfl rfl rfl ?_
    refine g_getO (q := 33) dX6_rooms_30 rfl fl_X6_40.g hX.x rfl ?_
    refine sp_V1 (q := 36) (M' := mX3_rowsAsSeen) dX6_rooms_33 rfl ok_X3_rowsAsSeen mk_X3_rowsAsSeen ml_X6_284 ⟨Nat.le_of_ble_eq_true rfl, Nat.le_of_ble_eq_true rfl⟩ rfl (Nat.le_of_ble_eq_true rfl) (g_rv hX.sg rfl) ⟨rfl, rfl⟩ (c_X3_rowsAsSeen hX.sg hS.1 hS.2.1 hFu hS.vp hU.1 (by omega)) ?_
    refine st_ireturn dX6_rooms_36 rfl ?_
    exact ⟨by rw [roomsS, if_pos h1, hjc, rmI, hU.bs hlb], rfl, hX, hF⟩
  · refine st_iconst (q := 12) dX6_rooms_11 rfl ic_m1 ?_
    refine st_ireturn dX6_rooms_12 rfl ?_
    exact ⟨by rw [roomsS, if_neg (by rw [← hK.1, zI_0.mp c_8]; decide)], rfl, hX, hF⟩
