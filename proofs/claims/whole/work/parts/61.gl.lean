def IMG (X : gT) (Ti : Nat → gT) (S : gT) (f : Nat → Int32) (nh nt : Nat) : Prop := (∀ k, k < 2 → (S 24 k = 0 ∨ S 24 k = 1) ∧ bt (X 3 0) k = decide (S 24 k = 1) ∧ (S 24 k = 1 → ∃ dk, RQ (Ti k) f (71 * (k + 1)) nh nt dk ∧ dk ≤ 999)) ∧ ∀ k, 2 ≤ k → k < 32 → bt (X 3 0) k = false
def TAP (Tp S : gT) (tl : Nat) : Prop := Tp 1 0 = nI tl ∧ S 10 0 = nI tl ∧ tl ≤ 160 ∧ ∀ k, k < 160 → S 9 k = Tp 0 k ∧ rg (Tp 0 k) 0 127
def GL (X Tn : gT) (Ti : Nat → gT) (Tp Sg : gT) (Sh : Nat → gT) (S : gT) (f : Nat → Int32) (nh nt dd tl sz : Nat) : Prop := GQ S f Tn nh nt dd ∧ IMG X Ti S f nh nt ∧ TAP Tp S tl ∧ X 5 0 = S 11 0 ∧ X 9 0 = S 28 0 ∧ SG Sg S sz ∧ SH Sh S ∧ EL S
theorem GL.q {X Tn : gT} {Ti : Nat → gT} {Tp Sg : gT} {Sh : Nat → gT} {S : gT} {f : Nat → Int32} {nh nt dd tl sz : Nat} (h : GL X Tn Ti Tp Sg Sh S f nh nt dd tl sz) : GQ S f Tn nh nt dd := h.1
theorem GL.tk {X Tn : gT} {Ti : Nat → gT} {Tp Sg : gT} {Sh : Nat → gT} {S : gT} {f : Nat → Int32} {nh nt dd tl sz : Nat} (h : GL X Tn Ti Tp Sg Sh S f nh nt dd tl sz) : TK Tn nh nt dd := by
  have hq := h.1.1.1
  refine ⟨hq.e0, hq.hnh, hq.e6, hq.hnt, fun j hj => ?_, h.1.1.2.2.2, h.1.2.2.2⟩
  obtain ⟨g, hg, e⟩ := (hq.is hj).2.2.2.2.2.1
  rw [e]
  exact vp_in_nI (by have := hq.hnh; omega) (by decide)
theorem GL.lk {X Tn : gT} {Ti : Nat → gT} {Tp Sg : gT} {Sh : Nat → gT} {S : gT} {f : Nat → Int32} {nh nt dd tl sz : Nat} (h : GL X Tn Ti Tp Sg Sh S f nh nt dd tl sz) : ∀ j, j < nh → ∃ l, l ≤ 3 ∧ Tn 3 j = nI l := fun j hj => rg_nI (m := 3) (h.1.1.1.hs hj).2.2.2.2.2.2.1
theorem IMG.c {X : gT} {Ti : Nat → gT} {S S' : gT} {f f' : Nat → Int32} {nh nt : Nat} (h : IMG X Ti S f nh nt) (h24 : S' 24 = S 24) (hf : ∀ j, 71 ≤ j → j < 213 → f' j = f j) : IMG X Ti S' f' nh nt := by
  refine ⟨fun k hk => ?_, h.2⟩
  rw [h24]
  obtain ⟨h1, h2, h3⟩ := h.1 k hk
  refine ⟨h1, h2, fun e => ?_⟩
  obtain ⟨dk, hr, hd⟩ := h3 e
  exact ⟨dk, hr.move (fun i hi => hf _ (by omega) (by omega)), hd⟩
theorem GL.qa {X Tn : gT} {Ti : Nat → gT} {Tp Sg : gT} {Sh : Nat → gT} {S : gT} {f : Nat → Int32} {nh nt dd tl sz : Nat} (h : GL X Tn Ti Tp Sg Sh S f nh nt dd tl sz) {S' : gT} {f' : Nat → Int32} (a : QA S S' f f') : GL X Tn Ti Tp Sg Sh S' f' nh nt dd tl sz := by
  have g : ∀ i, i ≠ 20 → i ≠ 23 → S' i = S i := a.2
  obtain ⟨h1, h2, h3, h4, h5, h6, h7, h8⟩ := h
  refine ⟨h1.qa a, h2.c (g 24 (by decide) (by decide)) (fun j _ hj => a.1 j hj), ?_, ?_, ?_, h6.qa a, h7.c (g 25 (by decide) (by decide)) (g 26 (by decide) (by decide)) (g 27 (by decide) (by decide)), ?_⟩
  · unfold TAP; rw [g 10 (by decide) (by decide), g 9 (by decide) (by decide)]; exact h3
  · rw [g 11 (by decide) (by decide)]; exact h4
  · rw [g 28 (by decide) (by decide)]; exact h5
  · unfold EL; rw [g 18 (by decide) (by decide), g 19 (by decide) (by decide)]; exact h8
theorem GL.cr {X Tn : gT} {Ti : Nat → gT} {Tp Sg : gT} {Sh : Nat → gT} {S : gT} {f : Nat → Int32} {nh nt dd tl sz : Nat} (h : GL X Tn Ti Tp Sg Sh S f nh nt dd tl sz) {T : gT} {f' : Nat → Int32} {d' : Nat} (hr : RQ T f' 0 nh nt d') (hd : d' ≤ 999) (hf : ∀ j, 71 ≤ j → f' j = f j) : GL X T Ti Tp Sg Sh S f' nh nt d' tl sz := ⟨⟨hr, h.1.2.1, h.1.2.2.1, hd⟩, h.2.1.c rfl (fun j hj _ => hf j hj), h.2.2⟩
theorem GL.tide {X Tn : gT} {Ti : Nat → gT} {Tp Sg : gT} {Sh : Nat → gT} {S : gT} {f : Nat → Int32} {nh nt dd tl sz : Nat} (h : GL X Tn Ti Tp Sg Sh S f nh nt dd tl sz) (x y : Int32) : GL X (tideS Tn x y).2 Ti Tp Sg Sh S (mtiF f x y) nh nt dd tl sz := by
  refine h.cr (h.1.1.tide x y) h.1.2.2.2 (fun j hj => ?_)
  unfold mtiF
  by_cases a : inI x 0 6 = true
  · rw [if_pos a]
    obtain ⟨d, hd, e⟩ := inI_k (k := 6) a (by decide)
    split
    · rw [pk_un (by rw [e, nI_clamp (by omega)]; omega)]
    · rfl
  · rw [if_neg a]
theorem GL.blow {X Tn : gT} {Ti : Nat → gT} {Tp Sg : gT} {Sh : Nat → gT} {S : gT} {f : Nat → Int32} {nh nt dd tl sz : Nat} (h : GL X Tn Ti Tp Sg Sh S f nh nt dd tl sz) (x : Int32) : GL X (blowS Tn x).2 Ti Tp Sg Sh S (mblF f x) nh nt dd tl sz := by
  refine h.cr (h.1.1.blow x) h.1.2.2.2 (fun j hj => ?_)
  unfold mblF
  split
  · exact pk_un (by omega)
  · rfl
theorem GL.sl {X Tn : gT} {Ti : Nat → gT} {Tp Sg : gT} {Sh : Nat → gT} {S : gT} {f : Nat → Int32} {nh nt dd tl sz : Nat} (h : GL X Tn Ti Tp Sg Sh S f nh nt dd tl sz) {S' : gT} (hs : ∀ g, g < 9 ∨ g = 11 ∨ (17 < g ∧ g ≠ 22 ∧ g ≠ 21) → S' g = S g) (ht : TAP Tp S' tl) (hg : SG Sg S' sz) : GL X Tn Ti Tp Sg Sh S' f nh nt dd tl sz := by
  obtain ⟨h1, h2, h3, h4, h5, h6, h7, h8⟩ := h
  refine ⟨⟨h1.1, by rw [hs 1 (by omega)]; exact h1.2.1, by rw [hs 2 (by omega)]; exact h1.2.2.1, h1.2.2.2⟩, h2.c (hs 24 (by omega)) (fun _ _ _ => rfl), ht, ?_, ?_, hg, h7.c (hs 25 (by omega)) (hs 26 (by omega)) (hs 27 (by omega)), ?_⟩
  · rw [hs 11 (by omega)]; exact h4
  · rw [hs 28 (by omega)]; exact h5
  · unfold EL; rw [hs 18 (by omega), hs 19 (by omega)]; exact h8
theorem GL.tp {X Tn : gT} {Ti : Nat → gT} {Tp Sg : gT} {Sh : Nat → gT} {S : gT} {f : Nat → Int32} {nh nt dd tl sz : Nat} (h : GL X Tn Ti Tp Sg Sh S f nh nt dd tl sz) {Tp' S' : gT} {tl' : Nat} (hs : ∀ g, g ≠ 9 → g ≠ 10 → S' g = S g) (ht : TAP Tp' S' tl') : GL X Tn Ti Tp' Sg Sh S' f nh nt dd tl' sz := by
  obtain ⟨h1, h2, h3, h4, h5, h6, h7, h8⟩ := h
  refine ⟨⟨h1.1, by rw [hs 1 (by omega) (by omega)]; exact h1.2.1, by rw [hs 2 (by omega) (by omega)]; exact h1.2.2.1, h1.2.2.2⟩, h2.c (hs 24 (by omega) (by omega)) (fun _ _ _ => rfl), ht, ?_, ?_, ⟨h6.1, ?_, ?_⟩, h7.c (hs 25 (by omega) (by omega)) (hs 26 (by omega) (by omega)) (hs 27 (by omega) (by omega)), ?_⟩
  · rw [hs 11 (by omega) (by omega)]; exact h4
  · rw [hs 28 (by omega) (by omega)]; exact h5
  · rw [hs 22 (by omega) (by omega)]; exact h6.2.1
  · rw [hs 21 (by omega) (by omega)]; exact h6.2.2
  · unfold EL; rw [hs 18 (by omega) (by omega), hs 19 (by omega) (by omega)]; exact h8
theorem by_tab : ∀ a, a < 128 → (nI a).toInt8.toInt32 = nI a := by decide +kernel
theorem GL.feed {X Tn : gT} {Ti : Nat → gT} {Tp Sg : gT} {Sh : Nat → gT} {S : gT} {f : Nat → Int32} {nh nt dd tl sz : Nat} (h : GL X Tn Ti Tp Sg Sh S f nh nt dd tl sz) (x : Int32) : ∃ tl', GL X Tn Ti (feT Tp tl x) Sg Sh (mfeS S tl x) f nh nt dd tl' sz := by
  obtain ⟨t1, t2, t3, t4⟩ := h.2.2.1
  unfold feT mfeS
  by_cases a : inI x 0 127 = true
  · rw [if_pos a, if_pos a, tpT]
    by_cases c : tl < 160
    · rw [if_pos c, if_pos c]
      obtain ⟨d, hd, e⟩ := inI_k (k := 127) a (by decide)
      subst e
      rw [by_tab d (by omega)]
      refine ⟨tl + 1, h.tp (fun g h9 h10 => by rw [tup_n h10, tup_n h9]) ⟨?_, ?_, by omega, fun k hk => ?_⟩⟩
      · rw [tup_s, pk_us, t1, nI_succ]
      · rw [tup_s, pk_us]
      · rw [tup_n (by decide), tup_s, tup_n (by decide), tup_s]
        by_cases z : k = tl
        · rw [z, pk_us, pk_us]; exact ⟨rfl, rg_of (m := 127) (by omega) (by decide)⟩
        · rw [pk_un z, pk_un z]; exact t4 k hk
    · rw [if_neg c, if_neg c]; exact ⟨tl, h⟩
  · rw [if_neg a, if_neg a]; exact ⟨tl, h⟩
theorem GL.fin {X Tn : gT} {Ti : Nat → gT} {Tp Sg : gT} {Sh : Nat → gT} {S : gT} {f : Nat → Int32} {nh nt dd tl sz : Nat} (h : GL X Tn Ti Tp Sg Sh S f nh nt dd tl sz) (x : Int32) : ∃ tl', GL X Tn Ti (enT Tp tl x) Sg Sh (menS S tl x) f nh nt dd tl' sz := by
  obtain ⟨t1, t2, t3, t4⟩ := h.2.2.1
  unfold enT menS
  by_cases a : inI x 0 (nI tl) = true
  · rw [if_pos a, if_pos a]
    obtain ⟨d, hd, e⟩ := inI_k (k := tl) a (by omega)
    subst e
    refine ⟨d, h.tp (fun g _ h10 => tup_n h10) ⟨by rw [tup_s, pk_us], by rw [tup_s, pk_us], by omega, fun k hk => ?_⟩⟩
    rw [tup_n (by decide), tup_n (by decide)]; exact t4 k hk
  · rw [if_neg a, if_neg a]; exact ⟨tl, h⟩
theorem GL.see {X Tn : gT} {Ti : Nat → gT} {Tp Sg : gT} {Sh : Nat → gT} {S : gT} {f : Nat → Int32} {nh nt dd tl sz : Nat} (h : GL X Tn Ti Tp Sg Sh S f nh nt dd tl sz) (x y : Int32) : ∃ sz', GL X Tn Ti Tp (seeT Sg sz x y) Sh (mseS S sz x y) f nh nt dd tl sz' := by
  have ht := h.2.2.1
  obtain ⟨⟨k1, k2, k3⟩, s2, s3⟩ := h.2.2.2.2.2.1
  unfold seeT mseS
  by_cases a : inI x 0 20 = true
  · rw [if_pos a, if_pos a]
    by_cases b : inI y 0 999 = true
    · rw [if_pos b, if_pos b, sgT]
      by_cases c : sz < 6
      · rw [if_pos c, if_pos c]
        obtain ⟨d, hd, e⟩ := inI_k (k := 20) a (by decide)
        have base : GL X Tn Ti Tp Sg Sh S f nh nt dd tl sz := h
        obtain ⟨h1, h2, h3, h4, h5, h6, h7, h8⟩ := h
        refine ⟨sz + 1, ⟨h1.1, h1.2.1, h1.2.2.1, h1.2.2.2⟩, h2.c rfl (fun _ _ _ => rfl), ht, h4, h5, ⟨⟨?_, by omega, fun k hk => ?_⟩, ?_, fun k hk => ?_⟩, h7.c rfl rfl rfl, h8⟩
        · rw [tup_s, pk_us, k1, nI_succ]
        · rw [tup_n (by decide), tup_n (by decide), tup_s]
          by_cases z : k = sz
          · rw [z, pk_us]; exact ⟨d, hd, e⟩
          · rw [pk_un z]; exact k3 k (by omega)
        · rw [tup_s, pk_us]
        · rw [tup_n (by decide), tup_s, tup_s, tup_n (by decide), tup_n (by decide), tup_s, tup_n (by decide), tup_s, tup_n (by decide)]
          by_cases z : k = sz
          · subst z
            rw [pk_un (by omega), pk_us, pk_us, pk_us, pk_us]; exact ⟨rfl, rfl⟩
          · repeat rw [pk_un (by omega)]
            exact s3 k (by omega)
      · rw [if_neg c, if_neg c]; exact ⟨sz, h⟩
    · rw [if_neg b, if_neg b]; exact ⟨sz, h⟩
  · rw [if_neg a, if_neg a]; exact ⟨sz, h⟩
theorem GL.fog {X Tn : gT} {Ti : Nat → gT} {Tp Sg : gT} {Sh : Nat → gT} {S : gT} {f : Nat → Int32} {nh nt dd tl sz : Nat} (h : GL X Tn Ti Tp Sg Sh S f nh nt dd tl sz) (x : Int32) : ∃ sz', GL X Tn Ti Tp (fogT Sg sz x) Sh (mfoS S sz x) f nh nt dd tl sz' := by
  obtain ⟨⟨k1, k2, k3⟩, s2, s3⟩ := h.2.2.2.2.2.1
  unfold fogT mfoS
  by_cases a : inI x 0 (nI sz) = true
  · rw [if_pos a, if_pos a]
    obtain ⟨d, hd, e⟩ := inI_k (k := sz) a (by omega)
    subst e
    obtain ⟨h1, h2, h3, h4, h5, h6, h7, h8⟩ := h
    refine ⟨d, ⟨h1.1, h1.2.1, h1.2.2.1, h1.2.2.2⟩, h2.c rfl (fun _ _ _ => rfl), h3, h4, h5, ⟨⟨by rw [tup_s, pk_us], by omega, fun k hk => ?_⟩, by rw [tup_s, pk_us], fun k hk => ?_⟩, h7.c rfl rfl rfl, h8⟩
    · rw [tup_n (by decide)]; exact k3 k (by omega)
    · rw [tup_n (by decide), tup_n (by decide), tup_n (by decide)]; exact s3 k (by omega)
  · rw [if_neg a, if_neg a]; exact ⟨sz, h⟩
theorem GL.kb {X Tn : gT} {Ti : Nat → gT} {Tp Sg : gT} {Sh : Nat → gT} {S : gT} {f : Nat → Int32} {nh nt dd tl sz : Nat} (h : GL X Tn Ti Tp Sg Sh S f nh nt dd tl sz) {j : Nat} (hj : j < 2) : ((X 3 0 >>> (nI j &&& 31)) &&& 1 = 0 ↔ S 24 j = 0) ∧ (S 24 j = 0 ∨ S 24 j = 1) := by
  obtain ⟨h1, h2, -⟩ := h.2.1.1 j hj
  refine ⟨?_, h1⟩
  rw [sh1_0 _ (by omega), h2]
  rcases h1 with e | e <;> rw [e] <;> decide
theorem GL.keepA {X Tn : gT} {Ti : Nat → gT} {Tp Sg : gT} {Sh : Nat → gT} {S : gT} {f : Nat → Int32} {nh nt dd tl sz : Nat} (h : GL X Tn Ti Tp Sg Sh S f nh nt dd tl sz) (x : Int32) : keepS X x = mkeA S x := by
  unfold keepS mkeA
  by_cases a : inI x 0 1 = true
  · rw [if_pos a, if_pos a]
    obtain ⟨j, hj, rfl⟩ := inI_k (k := 1) a (by decide)
    rw [nI_clamp (by omega)]
    obtain ⟨h1, h2⟩ := h.kb (j := j) (by omega)
    by_cases e : S 24 j = 0
    · rw [if_pos e]; exact h1.mpr e
    · rw [if_neg e]
      refine (sh1_1 _ (by omega)).mpr ?_
      cases hb : bt (X 3 0) j with
      | true => rfl
      | false => exact absurd (h1.mp ((sh1_0 _ (by omega)).mpr hb)) e
  · rw [if_neg a, if_neg a]
theorem GL.keep {X Tn : gT} {Ti : Nat → gT} {Tp Sg : gT} {Sh : Nat → gT} {S : gT} {f : Nat → Int32} {nh nt dd tl sz : Nat} (h : GL X Tn Ti Tp Sg Sh S f nh nt dd tl sz) (x : Int32) : GL (keepX X x) Tn (keepI Ti Tn x) Tp Sg Sh (mkeS S x) (mkeF f x) nh nt dd tl sz := by
  unfold keepX keepI mkeS mkeF
  by_cases a : inI x 0 1 = true
  · rw [if_pos a, if_pos a, if_pos a, if_pos a]
    obtain ⟨j, hj, rfl⟩ := inI_k (k := 1) a (by decide)
    rw [nI_clamp (by omega)]
    obtain ⟨h1, h2, h3, h4, h5, h6, h7, h8⟩ := h
    refine ⟨⟨h1.1.move (fun i hi => by rw [Nat.zero_add]; exact cpyM_out (by omega) (by omega)), h1.2.1, h1.2.2.1, h1.2.2.2⟩, ⟨fun k hk => ?_, fun k hk hk2 => ?_⟩, h3, h4, h5, ⟨h6.1, h6.2.1, h6.2.2⟩, h7.c rfl rfl rfl, h8⟩
    · rw [tup_s, tup_s, pk_us, b_or, bt_shl1 (by omega) (by omega)]
      by_cases z : k = j
      · subst z
        rw [pk_us]
        refine ⟨Or.inr rfl, by simp, fun _ => ⟨dd, ?_, h1.2.2.2⟩⟩
        show RQ (if k = k then Tn else Ti k) _ _ _ _ _
        rw [if_pos rfl]
        exact h1.1.cpy (by omega)
      · obtain ⟨g1, g2, g3⟩ := h2.1 k hk
        rw [pk_un z]
        refine ⟨g1, by rw [g2]; simp [z], fun e => ?_⟩
        obtain ⟨dk, hr, hd⟩ := g3 e
        refine ⟨dk, ?_, hd⟩
        show RQ (if k = j then Tn else Ti k) _ _ _ _ _
        rw [if_neg z]
        exact hr.move (fun i hi => cpyM_out (by omega) (by omega))
    · rw [tup_s, pk_us, b_or, bt_shl1 (by omega) hk2, h2.2 k hk hk2]
      have : ¬ k = j := by omega
      simp [this]
  · rw [if_neg a, if_neg a, if_neg a, if_neg a]; exact h
theorem GL.backA {X Tn : gT} {Ti : Nat → gT} {Tp Sg : gT} {Sh : Nat → gT} {S : gT} {f : Nat → Int32} {nh nt dd tl sz : Nat} (h : GL X Tn Ti Tp Sg Sh S f nh nt dd tl sz) (x : Int32) : backS X Ti x = mbaA S f x := by
  unfold backS mbaA
  by_cases a : inI x 0 1 = true
  · rw [if_pos a, if_pos a]
    obtain ⟨j, hj, rfl⟩ := inI_k (k := 1) a (by decide)
    rw [nI_clamp (by omega)]
    obtain ⟨h1, h2⟩ := h.kb (j := j) (by omega)
    by_cases e : S 24 j = 0
    · rw [if_pos e, if_pos (h1.mpr e)]
    · rw [if_neg e, if_neg (fun z => e (h1.mp z))]
      obtain ⟨dk, hr, hd⟩ := (h.2.1.1 j (by omega)).2.2 (h2.resolve_left e)
      have := cpyM_in (f := f) (a := 71 * (j + 1)) (c := 0) (by omega) (i := 69) (by decide)
      rw [Nat.zero_add] at this
      rw [this]
      exact hr.1.da
  · rw [if_neg a, if_neg a]
theorem GL.back {X Tn : gT} {Ti : Nat → gT} {Tp Sg : gT} {Sh : Nat → gT} {S : gT} {f : Nat → Int32} {nh nt dd tl sz : Nat} (h : GL X Tn Ti Tp Sg Sh S f nh nt dd tl sz) (x : Int32) : ∃ d', GL X (backT X Ti Tn x) Ti Tp Sg Sh S (mbaF S f x) nh nt d' tl sz := by
  unfold backT mbaF
  by_cases a : inI x 0 1 = true
  · rw [if_pos a, if_pos a]
    obtain ⟨j, hj, rfl⟩ := inI_k (k := 1) a (by decide)
    rw [nI_clamp (by omega)]
    obtain ⟨h1, h2⟩ := h.kb (j := j) (by omega)
    by_cases e : S 24 j = 0
    · rw [if_pos e, if_pos (h1.mpr e)]; exact ⟨dd, h⟩
    · rw [if_neg e, if_neg (fun z => e (h1.mp z))]
      obtain ⟨dk, hr, hd⟩ := (h.2.1.1 j (by omega)).2.2 (h2.resolve_left e)
      exact ⟨dk, h.cr (hr.cpy (by omega)) hd (fun q hq => cpyM_out (by omega) (by omega))⟩
  · rw [if_neg a, if_neg a]; exact ⟨dd, h⟩
theorem GL.sh {X Tn : gT} {Ti : Nat → gT} {Tp Sg : gT} {Sh : Nat → gT} {S : gT} {f : Nat → Int32} {nh nt dd tl sz : Nat} (h : GL X Tn Ti Tp Sg Sh S f nh nt dd tl sz) {Sh' : Nat → gT} {S' : gT} (hs : SH Sh' S') (hg : ∀ g, g ≠ 25 → g ≠ 26 → g ≠ 27 → S' g = S g) : GL X Tn Ti Tp Sg Sh' S' f nh nt dd tl sz := by
  obtain ⟨h1, h2, h3, h4, h5, h6, h7, h8⟩ := h
  have e : ∀ g, g < 25 ∨ g = 28 → S' g = S g := fun g hh => hg g (by omega) (by omega) (by omega)
  refine ⟨⟨h1.1, by rw [e 1 (by omega)]; exact h1.2.1, by rw [e 2 (by omega)]; exact h1.2.2.1, h1.2.2.2⟩, h2.c (e 24 (by omega)) (fun _ _ _ => rfl), ?_, ?_, ?_, ⟨h6.1, ?_, ?_⟩, hs, ?_⟩
  · unfold TAP; rw [e 10 (by omega), e 9 (by omega)]; exact h3
  · rw [e 11 (by omega)]; exact h4
  · rw [e 28 (by omega)]; exact h5
  · rw [e 22 (by omega)]; exact h6.2.1
  · rw [e 21 (by omega)]; exact h6.2.2
  · unfold EL; rw [e 18 (by omega), e 19 (by omega)]; exact h8
theorem GL.rd {X Tn : gT} {Ti : Nat → gT} {Tp Sg : gT} {Sh : Nat → gT} {S : gT} {f : Nat → Int32} {nh nt dd tl sz : Nat} (h : GL X Tn Ti Tp Sg Sh S f nh nt dd tl sz) (r : Int32 × Option (Int32 × gT)) {f' : Nat → Int32} (hr : RQ (rdT Tn r) f' 0 nh nt dd) (hf : ∀ j, 71 ≤ j → j < 213 → f' j = f j) : GL (rdX X r) (rdT Tn r) Ti Tp Sg Sh (mrdS S r) f' nh nt dd tl sz := by
  obtain ⟨h1, h2, h3, h4, h5, h6, h7, h8⟩ := h
  obtain ⟨r1, r2⟩ := r
  cases r2 with
  | none => exact ⟨⟨hr, h1.2⟩, h2.c rfl hf, h3, h4, h5, h6, h7, h8⟩
  | some e => exact ⟨⟨hr, h1.2⟩, ⟨fun k hk => (h2.c rfl hf).1 k hk, h2.2⟩, h3, h4, by show tup X 9 0 e.1 9 0 = tup S 28 0 e.1 28 0; rw [tup_s, tup_s, pk_us, pk_us], ⟨h6.1, h6.2.1, h6.2.2⟩, h7.c rfl rfl rfl, h8⟩
theorem GL.cnt {X Tn : gT} {Ti : Nat → gT} {Tp Sg : gT} {Sh : Nat → gT} {S : gT} {f : Nat → Int32} {nh nt dd tl sz : Nat} (h : GL X Tn Ti Tp Sg Sh S f nh nt dd tl sz) (x : Int32) : countS X Tn Tp Sg Sh nh nt x = mcoA S Tn nh nt x := by
  unfold countS mcoA
  obtain ⟨h1, h2, h3, h4, h5, h6, h7, h8⟩ := h
  have e1 : bcI (X 3 0) = (if S 24 0 = 0 then 0 else 1) + (if S 24 1 = 0 then 0 else 1) := by
    obtain ⟨a1, a2, -⟩ := h2.1 0 (by decide)
    obtain ⟨b1, b2, -⟩ := h2.1 1 (by decide)
    have hx : ∀ c, (∀ i, i < 32 → bt c i = (if i = 0 then decide (S 24 0 = 1) else if i = 1 then decide (S 24 1 = 1) else false)) → X 3 0 = c := fun c hc => b_ext (fun i hi => by
      rw [hc i hi]
      by_cases z0 : i = 0
      · rw [z0, if_pos rfl]; exact a2
      · rw [if_neg z0]
        by_cases z1 : i = 1
        · rw [z1, if_pos rfl]; exact b2
        · rw [if_neg z1]; exact h2.2 i (by omega) hi)
    rcases a1 with a | a <;> rcases b1 with b | b
    · rw [hx 0 (by rw [a, b]; decide), a, b]; decide +kernel
    · rw [hx 2 (by rw [a, b]; decide), a, b]; decide +kernel
    · rw [hx 1 (by rw [a, b]; decide), a, b]; decide +kernel
    · rw [hx 3 (by rw [a, b]; decide), a, b]; decide +kernel
  have e3 : (if Sh 0 1 0 = 0 then (-4 : Int32) else Sh 0 3 0) = (if S 25 0 = -4 then -4 else S 26 0) := by
    obtain ⟨s, hs, e, hh⟩ := h7 0 (by decide)
    rcases hh with ⟨c1, c2⟩ | ⟨c1, ⟨l, hl, el⟩, c3, c4, -⟩
    · rw [if_pos c1, if_pos c2]
    · rw [if_neg (by rw [c1]; decide), if_neg (by rw [el]; exact nI_n4 (by omega)), e, c4]
  rw [e1, e3, h6.1.1, h6.2.1, h3.1, h3.2.1]
theorem gzX7 : ∀ i q, gnth layX7 i = some q → q.1 = 0 → q = (0, 0, 0, 0) := gz_of rfl
theorem MR.row9 {S : gT} {f : Nat → Int32} {b n : Nat} {w : ev_W} {g : Nat → Int32} (h : MR S f b n w) (hg : ∀ k, k < 160 → S 9 k = g k) : MR (rowT S 9 g) f b n w := by
  refine GR.congr gzX7 h (fun i hi => ?_) (fun i o ty len hi j hj => ?_)
  · by_cases z : i = 9
    · subst z; cases hi
    · by_cases z0 : i = 0
      · subst z0; cases hi
      · rw [rowT_n z0, rowT_n z0, rowT_n z]
  · by_cases z : i = 9
    · subst z
      cases hi
      rw [rowT_n (by decide), rowT_n (by decide), rowT_s]
      exact hg j hj
    · by_cases z0 : i = 0
      · subst z0; rw [rowT_s, rowT_s]
      · rw [rowT_n z0, rowT_n z0, rowT_n z]
theorem GL.row9 {X Tn : gT} {Ti : Nat → gT} {Tp Sg : gT} {Sh : Nat → gT} {S : gT} {f : Nat → Int32} {nh nt dd tl sz : Nat} (h : GL X Tn Ti Tp Sg Sh S f nh nt dd tl sz) : GL X Tn Ti Tp Sg Sh (rowT S 9 (Tp 0)) f nh nt dd tl sz := by
  refine h.tp (fun g h9 _ => rowT_n h9) ⟨h.2.2.1.1, ?_, h.2.2.1.2.2.1, fun k hk => ?_⟩
  · rw [rowT_n (by decide)]; exact h.2.2.1.2.1
  · rw [rowT_s]; exact ⟨rfl, (h.2.2.1.2.2.2 k hk).2⟩
theorem GL.kx {X Tn : gT} {Ti : Nat → gT} {Tp Sg : gT} {Sh : Nat → gT} {S : gT} {f : Nat → Int32} {nh nt dd tl sz : Nat} (h : GL X Tn Ti Tp Sg Sh S f nh nt dd tl sz) (h9 : S 9 = Tp 0) : KX S (Tp 0) tl := by
  refine ⟨h9, h.2.2.1.2.1, h.2.2.1.2.2.1, fun k hk z => ?_⟩
  have := ((h.2.2.1.2.2.2 k (by have := h.2.2.1.2.2.1; omega)).2).1
  rw [z] at this
  exact absurd this (by decide)
theorem GL.txE {X Tn : gT} {Ti : Nat → gT} {Tp Sg : gT} {Sh : Nat → gT} {S : gT} {f : Nat → Int32} {nh nt dd tl sz : Nat} (h : GL X Tn Ti Tp Sg Sh S f nh nt dd tl sz) {S' : gT} {e : Nat × Nat} (h9 : S 9 = Tp 0) (s10 : S' 10 0 = 0) (s11 : S' 11 0 = nI e.1) (hs : ∀ g, g < 3 ∨ g = 9 ∨ 17 < g → S' g = S g) : GL (tup X 5 0 (nI e.1)) Tn Ti (tup Tp 1 0 0) Sg Sh S' f nh nt dd 0 sz := by
  obtain ⟨h1, h2, h3, h4, h5, h6, h7, h8⟩ := h
  refine ⟨⟨h1.1, by rw [hs 1 (by omega)]; exact h1.2.1, by rw [hs 2 (by omega)]; exact h1.2.2.1, h1.2.2.2⟩, h2.c (hs 24 (by omega)) (fun _ _ _ => rfl), ⟨by rw [tup_s, pk_us]; rfl, s10, by omega, fun k hk => ?_⟩, ?_, ?_, ⟨h6.1, ?_, ?_⟩, h7.c (hs 25 (by omega)) (hs 26 (by omega)) (hs 27 (by omega)), ?_⟩
  · rw [hs 9 (by omega), tup_n (by decide)]; exact h3.2.2.2 k hk
  · rw [tup_s, pk_us, s11]
  · rw [hs 28 (by omega), tup_n (by decide)]; exact h5
  · rw [hs 22 (by omega)]; exact h6.2.1
  · rw [hs 21 (by omega)]; exact h6.2.2
  · unfold EL; rw [hs 18 (by omega), hs 19 (by omega)]; exact h8
theorem GL.txS {X Tn : gT} {Ti : Nat → gT} {Tp Sg : gT} {Sh : Nat → gT} {S : gT} {f : Nat → Int32} {nh nt dd tl sz : Nat} (h : GL X Tn Ti Tp Sg Sh S f nh nt dd tl sz) {S' D : gT} {f' : Nat → Int32} {nh' nt' : Nat} (hr : RQ D f' 0 nh' nt' 0) (s1 : S' 1 0 = nI nh') (s2 : S' 2 0 = nI nt') (s10 : S' 10 0 = 0) (s11 : S' 11 0 = 0) (s22 : S' 22 0 = 0) (s24 : S' 24 0 = 0) (s241 : S' 24 1 = 0) (hs : ∀ g, g = 9 ∨ (17 < g ∧ g ≠ 22 ∧ g ≠ 24) → S' g = S g) : GL (tup (tup X 5 0 0) 3 0 0) D Ti (tup Tp 1 0 0) (tup Sg 2 0 0) Sh S' f' nh' nt' 0 0 0 := by
  obtain ⟨h1, h2, h3, h4, h5, h6, h7, h8⟩ := h
  refine ⟨⟨hr, s1, s2, by decide⟩, ⟨fun k hk => ?_, fun k _ _ => ?_⟩, ⟨by rw [tup_s, pk_us]; rfl, s10, by decide, fun k hk => ?_⟩, ?_, ?_, ⟨⟨by rw [tup_s, pk_us]; rfl, by decide, fun k hk => absurd hk (Nat.not_lt_zero k)⟩, s22, fun k hk => absurd hk (Nat.not_lt_zero k)⟩, h7.c (hs 25 (by omega)) (hs 26 (by omega)) (hs 27 (by omega)), ?_⟩
  · have e : S' 24 k = 0 := by
      match k, hk with
      | 0, _ => exact s24
      | 1, _ => exact s241
    rw [e, tup_s, pk_us, b_0]
    exact ⟨Or.inl rfl, by decide, fun z => absurd z (by decide)⟩
  · rw [tup_s, pk_us, b_0]
  · rw [hs 9 (by omega), tup_n (by decide)]; exact h3.2.2.2 k hk
  · rw [tup_n (by decide), tup_s, pk_us, s11]
  · rw [hs 28 (by omega), tup_n (by decide), tup_n (by decide)]; exact h5
  · unfold EL; rw [hs 18 (by omega), hs 19 (by omega)]; exact h8
theorem GL.ini : GL z0T t5T (fun _ => t5T) z0T z0T (fun _ => z0T) m7T (fun _ => 0) 0 0 0 0 0 := by
  refine ⟨⟨⟨⟨by decide, by decide, rfl, rfl, fun k hk => absurd hk (Nat.not_lt_zero k), fun k hk => absurd hk (Nat.not_lt_zero k), fun k hk => ?_, fun k hk => ?_, fun k hk => ?_, fun d hd => ?_, rfl, ?_, rfl, rfl, ?_⟩, ?_, ?_, rfl⟩, rfl, rfl, by decide⟩, ⟨fun k hk => ⟨Or.inl rfl, ?_, fun z => absurd z (by show ¬ (0 : Int32) = 1; decide)⟩, fun k _ _ => b_0 k⟩, ⟨rfl, rfl, by decide, fun k hk => ⟨rfl, by show rg (0 : Int32) 0 127; unfold rg; decide⟩⟩, rfl, rfl, ⟨⟨rfl, by decide, fun k hk => absurd hk (Nat.not_lt_zero k)⟩, rfl, fun k hk => absurd hk (Nat.not_lt_zero k)⟩, fun k hk => ⟨0, by decide, rfl, Or.inl ⟨rfl, rfl⟩⟩, fun k hk => rfl, fun k hk => rfl⟩
  · show bt 0 k = _; rw [b_0]; simp
  · show bt 0 k = _; rw [b_0]; simp
  · show bt 0 k = _; rw [b_0]; simp
  · show (4 : Int32) = 0 + 4 ∧ rg (4 : Int32) 0 8; exact ⟨by decide, by unfold rg; decide⟩
  · show rg (0 : Int32) 0 20; unfold rg; decide
  · show rg (0 : Int32) 0 999; unfold rg; decide
  · show (4 : Int32) = 0 + 4; decide
  · show rg (4 : Int32) 0 8; unfold rg; decide
  · show bt 0 k = decide ((0 : Int32) = 1); rw [b_0]; decide
def LW (w : ev_W) : Prop := ∃ (X Tn : gT) (Ti : Nat → gT) (Tp Sg : gT) (Sh : Nat → gT) (S : gT) (f : Nat → Int32) (nh nt dd tl sz : Nat), XI X Tn Ti Tp Sg Sh 82 w ∧ MR S f 70 82 w ∧ GL X Tn Ti Tp Sg Sh S f nh nt dd tl sz
theorem XI.wk {X Tn : gT} {Ti : Nat → gT} {Tp Sg : gT} {Sh : Nat → gT} {n n' : Nat} {w : ev_W} (h : XI X Tn Ti Tp Sg Sh n w) (hn : n ≤ n') : XI X Tn Ti Tp Sg Sh n' w := by
  obtain ⟨a1, a2, a3, ⟨q4, a4⟩, a5, a6, a7, ⟨q8, a8⟩, a9, ⟨q10, a10⟩, a11, a12, ⟨q13, a13⟩⟩ := h
  exact ⟨by omega, a2.wk hn, a3.wk hn, ⟨q4, a4.wk hn⟩, a5, fun k hk => (a6 k hk).wk hn, a7.wk hn, ⟨q8, a8.wk hn⟩, a9.wk hn, ⟨q10, a10.wk hn⟩, a11, fun k hk => (a12 k hk).wk hn, ⟨q13, a13.wk hn⟩⟩
