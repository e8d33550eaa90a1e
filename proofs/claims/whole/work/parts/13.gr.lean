abbrev gT : Type := Nat → Nat → Int32
abbrev gL : Type := List (Nat × Nat × Nat × Nat)
def gfs (T : gT) (b : Nat) : Nat → gL → List Value
  | _, [] => []
  | i, (0, _, _, _) :: l => .int (T i 0) :: gfs T b (i + 1) l
  | i, (1, o, _, _) :: l => .ref (b + o) :: gfs T b (i + 1) l
  | i, (_ + 2, o, _, _) :: l => .ref o :: gfs T b (i + 1) l
def gnth : gL → Nat → Option (Nat × Nat × Nat × Nat)
  | [], _ => none
  | a :: _, 0 => some a
  | _ :: l, i + 1 => gnth l i
def tup (T : gT) (f j : Nat) (v : Int32) : gT := fun g => if g = f then upd (T g) j v else T g
theorem tup_s {T : gT} {f j : Nat} {v : Int32} : tup T f j v f = upd (T f) j v := if_pos rfl
theorem tup_n {T : gT} {f g j : Nat} {v : Int32} (h : g ≠ f) : tup T f j v g = T g := if_neg h
def Fr (lo hi : Nat) (w w' : ev_W) : Prop := ∀ k, k < lo ∨ hi ≤ k → w' k = w k
theorem Fr.rf {lo hi : Nat} {w : ev_W} : Fr lo hi w w := fun _ _ => rfl
theorem Fr.tr {lo hi : Nat} {w w' w'' : ev_W} (h : Fr lo hi w w') (h' : Fr lo hi w' w'') : Fr lo hi w w'' := fun k hk => (h' k hk).trans (h k hk)
theorem Fr.mono {lo hi lo' hi' : Nat} {w w' : ev_W} (h : Fr lo hi w w') (h1 : lo' ≤ lo) (h2 : hi ≤ hi') : Fr lo' hi' w w' := fun k hk => h k (by omega)
def gok (lay : gL) (sz : Nat) : Prop := (∀ i, i < lay.length → ∀ q, gnth lay i = some q → q.1 = 1 → 1 ≤ q.2.1 ∧ q.2.1 ≤ sz) ∧ ∀ i, i < lay.length → ∀ j, j < lay.length → ∀ p q, gnth lay i = some p → gnth lay j = some q → p.1 = 1 → q.1 = 1 → p.2.1 = q.2.1 → i = j
def gokb (lay : gL) (sz : Nat) : Bool := (List.range lay.length).all (fun i => match gnth lay i with
  | none => true
  | some q => !(q.1 == 1) || (Nat.ble 1 q.2.1 && Nat.ble q.2.1 sz && (List.range lay.length).all (fun j => match gnth lay j with
    | none => true
    | some r => !(r.1 == 1) || !(q.2.1 == r.2.1) || i == j)))
theorem gnth_lt : ∀ (l : gL) (i : Nat) (q : Nat × Nat × Nat × Nat), gnth l i = some q → i < l.length
  | [], _, _, h => by simp [gnth] at h
  | _ :: l, 0, _, _ => Nat.succ_pos _
  | _ :: l, i + 1, q, h => Nat.succ_lt_succ (gnth_lt l i q h)
theorem gok_of {lay : gL} {sz : Nat} (h : gokb lay sz = true) : gok lay sz := by
  have key : ∀ i, i < lay.length → ∀ q, gnth lay i = some q → q.1 = 1 → (1 ≤ q.2.1 ∧ q.2.1 ≤ sz) ∧ ∀ j, j < lay.length → ∀ r, gnth lay j = some r → r.1 = 1 → q.2.1 = r.2.1 → i = j := by
    intro i hi q hq h1
    have hx := List.all_eq_true.mp h i (List.mem_range.mpr hi)
    rw [hq] at hx
    simp only [h1, beq_self_eq_true, Bool.not_true, Bool.false_or, Bool.and_eq_true, Nat.ble_eq] at hx
    refine ⟨hx.1, fun j hj r hr h2 h3 => ?_⟩
    have hy := List.all_eq_true.mp hx.2 j (List.mem_range.mpr hj)
    rw [hr] at hy
    simpa [h2, h3] using hy
  exact ⟨fun i hi q hq h1 => (key i hi q hq h1).1, fun i hi j hj p q hp hq h1 h2 h3 => (key i hi p hp h1).2 j hj q hq h2 h3⟩
def GR (ci : Nat) (lay : gL) (sz : Nat) (T : gT) (b n : Nat) (w : ev_W) : Prop := b + sz < n ∧ w b = oO ci (gfs T b 0 lay) ∧ ∀ i o ty len, gnth lay i = some (1, o, ty, len) → ∃ f, w (b + o) = .inl (ty, len, f) ∧ ∀ j, j < len → f j = T i j
theorem gfs_0 (T : gT) (b : Nat) : ∀ (l : gL) (s i : Nat), gnth l i = some (0, 0, 0, 0) → ev_nth (gfs T b s l) i = some (.int (T (s + i) 0))
  | [], _, _, h => by simp [gnth] at h
  | a :: l, s, 0, h => by cases h; rfl
  | a :: l, s, i + 1, h => by
    have ih := gfs_0 T b l (s + 1) i h
    rw [show s + 1 + i = s + (i + 1) by omega] at ih
    obtain ⟨k, o, t, m⟩ := a
    match k with
    | 0 => exact ih
    | 1 => exact ih
    | k + 2 => exact ih
theorem gfs_1 (T : gT) (b : Nat) : ∀ (l : gL) (s i o t m : Nat), gnth l i = some (1, o, t, m) → ev_nth (gfs T b s l) i = some (.ref (b + o))
  | [], _, _, _, _, _, h => by simp [gnth] at h
  | a :: l, s, 0, o, t, m, h => by cases h; rfl
  | a :: l, s, i + 1, o, t, m, h => by
    have ih := gfs_1 T b l (s + 1) i o t m h
    obtain ⟨k, o, t, m⟩ := a
    match k with
    | 0 => exact ih
    | 1 => exact ih
    | k + 2 => exact ih
theorem gfs_2 (T : gT) (b : Nat) : ∀ (l : gL) (s i o t m : Nat), gnth l i = some (2, o, t, m) → ev_nth (gfs T b s l) i = some (.ref o)
  | [], _, _, _, _, _, h => by simp [gnth] at h
  | a :: l, s, 0, o, t, m, h => by cases h; rfl
  | a :: l, s, i + 1, o, t, m, h => by
    have ih := gfs_2 T b l (s + 1) i o t m h
    obtain ⟨k, o, t, m⟩ := a
    match k with
    | 0 => exact ih
    | 1 => exact ih
    | k + 2 => exact ih
theorem gfs_ag (T U : gT) (b : Nat) : ∀ (l : gL) (s : Nat), (∀ i, gnth l i = some (0, 0, 0, 0) → T (s + i) 0 = U (s + i) 0) → (∀ i q, gnth l i = some q → q.1 = 0 → q = (0, 0, 0, 0)) → gfs T b s l = gfs U b s l
  | [], _, _, _ => rfl
  | a :: l, s, h, hz => by
    have ih := gfs_ag T U b l (s + 1) (fun i hi => by have := h (i + 1) hi; rwa [show s + (i + 1) = s + 1 + i by omega] at this) (fun i q hi => hz (i + 1) q hi)
    obtain ⟨k, o, t, m⟩ := a
    match k, h, hz with
    | 0, h, hz =>
      have e := hz 0 _ rfl rfl
      have := h 0 (by rw [show gnth ((0, o, t, m) :: l) 0 = some (0, o, t, m) from rfl, e])
      show Value.int (T s 0) :: gfs T b (s + 1) l = Value.int (U s 0) :: gfs U b (s + 1) l
      rw [ih, show T s 0 = U s 0 from this]
    | 1, h, hz => show _ :: _ = _ :: _; rw [ih]
    | k + 2, h, hz => show _ :: _ = _ :: _; rw [ih]
theorem gfs_up (T : gT) (b : Nat) (x : Int32) : ∀ (l : gL) (s i : Nat), gnth l i = some (0, 0, 0, 0) → ev_rep (gfs T b s l) i (.int x) = gfs (tup T (s + i) 0 x) b s l
  | [], _, _, h => by simp [gnth] at h
  | a :: l, s, 0, h => by
    cases h
    show Value.int x :: gfs T b (s + 1) l = Value.int (tup T s 0 x s 0) :: gfs (tup T s 0 x) b (s + 1) l
    have e : ∀ (l : gL) (r : Nat), s < r → gfs T b r l = gfs (tup T s 0 x) b r l := by
      intro l
      induction l with
      | nil => intro r _; rfl
      | cons a l ih =>
        intro r hr
        obtain ⟨k, o, t, m⟩ := a
        match k with
        | 0 =>
          show Value.int (T r 0) :: gfs T b (r + 1) l = Value.int (tup T s 0 x r 0) :: gfs (tup T s 0 x) b (r + 1) l
          rw [ih (r + 1) (by omega), tup_n (by omega)]
        | 1 => show _ :: _ = _ :: _; rw [ih (r + 1) (by omega)]
        | k + 2 => show _ :: _ = _ :: _; rw [ih (r + 1) (by omega)]
    rw [tup_s, e l (s + 1) (Nat.lt_succ_self s)]
    simp [upd]
  | a :: l, s, i + 1, h => by
    have ih := gfs_up T b x l (s + 1) i h
    rw [show s + 1 + i = s + (i + 1) by omega] at ih
    obtain ⟨k, o, t, m⟩ := a
    match k with
    | 0 =>
      show Value.int (T s 0) :: ev_rep (gfs T b (s + 1) l) i (.int x) = Value.int (tup T (s + (i + 1)) 0 x s 0) :: gfs (tup T (s + (i + 1)) 0 x) b (s + 1) l
      rw [ih, tup_n (by omega)]
    | 1 => show _ :: _ = _ :: _; rw [ih]
    | k + 2 => show _ :: _ = _ :: _; rw [ih]
theorem GR.fr {ci : Nat} {lay : gL} {sz : Nat} {T : gT} {b n : Nat} {w w' : ev_W} (g : gok lay sz) (h : GR ci lay sz T b n w) (hf : ∀ k, b ≤ k → k ≤ b + sz → w' k = w k) : GR ci lay sz T b n w' := by
  refine ⟨h.1, by rw [hf b (Nat.le_refl _) (by omega)]; exact h.2.1, fun i o ty len hi => ?_⟩
  have := g.1 i (gnth_lt _ _ _ hi) _ hi rfl
  rw [hf (b + o) (by omega) (by have := this.2; simp only at this; omega)]
  exact h.2.2 i o ty len hi
def rowT (T : gT) (i : Nat) (g : Nat → Int32) : gT := fun f => if f = i then g else T f
theorem rowT_s {T : gT} {i : Nat} {g : Nat → Int32} : rowT T i g i = g := if_pos rfl
theorem rowT_n {T : gT} {i j : Nat} {g : Nat → Int32} (h : j ≠ i) : rowT T i g j = T j := if_neg h
theorem GR.congr {ci : Nat} {lay : gL} {sz : Nat} {T U : gT} {b n : Nat} {w : ev_W} (hz : ∀ i q, gnth lay i = some q → q.1 = 0 → q = (0, 0, 0, 0)) (h : GR ci lay sz T b n w) (h0 : ∀ i, gnth lay i = some (0, 0, 0, 0) → T i 0 = U i 0) (h1 : ∀ i o ty len, gnth lay i = some (1, o, ty, len) → ∀ j, j < len → T i j = U i j) : GR ci lay sz U b n w := by
  refine ⟨h.1, by rw [h.2.1, gfs_ag T U b lay 0 (fun i hi => by rw [Nat.zero_add]; exact h0 i hi) hz], fun i o ty len hi => ?_⟩
  obtain ⟨f, e1, e2⟩ := h.2.2 i o ty len hi
  exact ⟨f, e1, fun j hj => (e2 j hj).trans (h1 i o ty len hi j hj)⟩
theorem GR.put {ci : Nat} {lay : gL} {sz : Nat} {T : gT} {b n i : Nat} {w : ev_W} {x : Int32} (g : gok lay sz) (h : GR ci lay sz T b n w) (hi : gnth lay i = some (0, 0, 0, 0)) : GR ci lay sz (tup T i 0 x) b n (ev_up w b (oO ci (ev_rep (gfs T b 0 lay) i (.int x)))) ∧ Fr b (b + sz + 1) w (ev_up w b (oO ci (ev_rep (gfs T b 0 lay) i (.int x)))) := by
  refine ⟨⟨h.1, ?_, fun j o ty len hj => ?_⟩, fun k hk => ev_up_n (by omega)⟩
  · rw [ev_up_s, gfs_up T b x lay 0 i hi, Nat.zero_add]
  · have := (g.1 j (gnth_lt _ _ _ hj) _ hj rfl).1
    simp only at this
    rw [ev_up_n (by omega), tup_n (fun e => by rw [e, hi] at hj; cases hj)]
    exact h.2.2 j o ty len hj
theorem GR.row {ci : Nat} {lay : gL} {sz : Nat} {T : gT} {b n i o ty len : Nat} {w : ev_W} {f g : Nat → Int32} (gk : gok lay sz) (h : GR ci lay sz T b n w) (hi : gnth lay i = some (1, o, ty, len)) (hfg : ∀ j, j < len → f j = g j) : GR ci lay sz (rowT T i g) b n (ev_up w (b + o) (.inl (ty, len, f))) ∧ Fr b (b + sz + 1) w (ev_up w (b + o) (.inl (ty, len, f))) := by
  have ho := gk.1 i (gnth_lt _ _ _ hi) _ hi rfl
  simp only at ho
  refine ⟨⟨h.1, ?_, fun r o2 ty2 len2 hr => ?_⟩, fun k hk => ev_up_n (by omega)⟩
  · rw [ev_up_n (by omega), h.2.1]
    have e : ∀ (l : gL) (s : Nat), (∀ r, (∃ q, gnth l r = some q ∧ q.1 = 0) → s + r ≠ i) → gfs T b s l = gfs (rowT T i g) b s l := by
      intro l
      induction l with
      | nil => intro s _; rfl
      | cons a l ih =>
        intro s hs
        have ih' := ih (s + 1) (fun r hr => by have := hs (r + 1) hr; omega)
        obtain ⟨k, o, t, m⟩ := a
        match k, hs with
        | 0, hs =>
          have := hs 0 ⟨_, rfl, rfl⟩
          show Value.int (T s 0) :: gfs T b (s + 1) l = Value.int (rowT T i g s 0) :: gfs (rowT T i g) b (s + 1) l
          rw [ih', rowT_n (by omega)]
        | 1, hs => show _ :: _ = _ :: _; rw [ih']
        | k + 2, hs => show _ :: _ = _ :: _; rw [ih']
    rw [e lay 0 (fun r hr => by
      rw [Nat.zero_add]
      intro e
      obtain ⟨q, hr, h0⟩ := hr
      rw [e, hi] at hr
      cases hr
      simp at h0)]
  · by_cases e : r = i
    · subst e
      rw [hi] at hr
      cases hr
      rw [ev_up_s, rowT_s]
      exact ⟨f, rfl, hfg⟩
    · have := gk.2 r (gnth_lt _ _ _ hr) i (gnth_lt _ _ _ hi) _ _ hr hi rfl rfl
      simp only at this
      rw [ev_up_n (fun z => e (this (by omega))), rowT_n e]
      exact h.2.2 r o2 ty2 len2 hr
theorem tup_row {T : gT} {i j : Nat} {x : Int32} : rowT T i (upd (T i) j x) = tup T i j x := by
  funext f
  unfold rowT tup
  by_cases h : f = i
  · rw [if_pos h, if_pos h, h]
  · rw [if_neg h, if_neg h]
theorem GR.ast {ci : Nat} {lay : gL} {sz : Nat} {T : gT} {b n i o ty len j : Nat} {w : ev_W} {x : Int32} {f : Nat → Int32} (g : gok lay sz) (h : GR ci lay sz T b n w) (hi : gnth lay i = some (1, o, ty, len)) (hf : ∀ j, j < len → f j = T i j) : GR ci lay sz (tup T i j x) b n (ev_up w (b + o) (.inl (ty, len, upd f j x))) ∧ Fr b (b + sz + 1) w (ev_up w (b + o) (.inl (ty, len, upd f j x))) := by
  rw [← tup_row]
  refine GR.row g h hi (fun r hr => ?_)
  by_cases e : r = j
  · subst e; rw [pk_us, pk_us]
  · rw [pk_un e, pk_un e]; exact hf r hr
theorem ev_ix_lt {x : Int32} {len j : Nat} (h : ev_ix x len j) : j < len := by
  obtain ⟨h1, rfl⟩ := h
  exact Nat.not_le.mp (fun q => h1 (Or.inr q))
section EVG
variable {E : ev_E} {M : ev_M} {pc q : Nat} {L : List (Option Value)} {st : List Value} {n : Nat} {w : ev_W} {cs : Nat × Nat} {Q : Option Value → Nat → ev_W → Prop} {ci : Nat} {lay : gL} {sz : Nat} {T : gT} {b : Nat}
theorem g_get {idx i : Nat} (d : decode (ev_cc M) pc = .ok (.getfield idx, 3)) (hq : pc + 3 = q) (fl : ev_FL (ev_y M).cls idx ci i) (h : GR ci lay sz T b n w) (hi : gnth lay i = some (0, 0, 0, 0)) (kk : Ev E M q L (.int (T i 0) :: st) n w cs Q) : Ev E M pc L (.ref b :: st) n w cs Q :=
  st_getfield d hq fl (by have := h.1; omega) h.2.1 (by rw [gfs_0 T b lay 0 i hi, Nat.zero_add]) kk
theorem g_getA {idx i o ty len : Nat} (d : decode (ev_cc M) pc = .ok (.getfield idx, 3)) (hq : pc + 3 = q) (fl : ev_FL (ev_y M).cls idx ci i) (h : GR ci lay sz T b n w) (hi : gnth lay i = some (1, o, ty, len)) (kk : Ev E M q L (.ref (b + o) :: st) n w cs Q) : Ev E M pc L (.ref b :: st) n w cs Q :=
  st_getfield d hq fl (by have := h.1; omega) h.2.1 (gfs_1 T b lay 0 i o ty len hi) kk
theorem g_getO {idx i o ty len : Nat} (d : decode (ev_cc M) pc = .ok (.getfield idx, 3)) (hq : pc + 3 = q) (fl : ev_FL (ev_y M).cls idx ci i) (h : GR ci lay sz T b n w) (hi : gnth lay i = some (2, o, ty, len)) (kk : Ev E M q L (.ref o :: st) n w cs Q) : Ev E M pc L (.ref b :: st) n w cs Q :=
  st_getfield d hq fl (by have := h.1; omega) h.2.1 (gfs_2 T b lay 0 i o ty len hi) kk
theorem g_iald {i o len j : Nat} {x : Int32} (d : decode (ev_cc M) pc = .ok (.iaload, 1)) (hq : pc + 1 = q) (g : gok lay sz) (h : GR ci lay sz T b n w) (hi : gnth lay i = some (1, o, 0, len)) (hx : ev_ix x len j) (kk : Ev E M q L (.int (T i j) :: st) n w cs Q) : Ev E M pc L (.int x :: .ref (b + o) :: st) n w cs Q := by
  obtain ⟨f, e1, e2⟩ := h.2.2 i o 0 len hi
  rw [← e2 j (ev_ix_lt hx)] at kk
  exact st_iaload d hq (by have := h.1; have := (g.1 i (gnth_lt _ _ _ hi) _ hi rfl).2; simp only at this; omega) e1 hx kk
theorem g_bald {i o len j : Nat} {x : Int32} (d : decode (ev_cc M) pc = .ok (.baload, 1)) (hq : pc + 1 = q) (g : gok lay sz) (h : GR ci lay sz T b n w) (hi : gnth lay i = some (1, o, 1, len)) (hx : ev_ix x len j) (kk : Ev E M q L (.int (T i j) :: st) n w cs Q) : Ev E M pc L (.int x :: .ref (b + o) :: st) n w cs Q := by
  obtain ⟨f, e1, e2⟩ := h.2.2 i o 1 len hi
  rw [← e2 j (ev_ix_lt hx)] at kk
  exact st_baload d hq (by have := h.1; have := (g.1 i (gnth_lt _ _ _ hi) _ hi rfl).2; simp only at this; omega) e1 hx kk
theorem g_zald {i o len j : Nat} {x : Int32} (d : decode (ev_cc M) pc = .ok (.baload, 1)) (hq : pc + 1 = q) (g : gok lay sz) (h : GR ci lay sz T b n w) (hi : gnth lay i = some (1, o, 2, len)) (hx : ev_ix x len j) (kk : Ev E M q L (.int (T i j) :: st) n w cs Q) : Ev E M pc L (.int x :: .ref (b + o) :: st) n w cs Q := by
  obtain ⟨f, e1, e2⟩ := h.2.2 i o 2 len hi
  rw [← e2 j (ev_ix_lt hx)] at kk
  exact st_zaload d hq (by have := h.1; have := (g.1 i (gnth_lt _ _ _ hi) _ hi rfl).2; simp only at this; omega) e1 hx kk
theorem g_put {idx i : Nat} {x : Int32} {t : FieldType} (d : decode (ev_cc M) pc = .ok (.putfield idx, 3)) (hq : pc + 3 = q) (fl : ev_FP (ev_y M).cls idx ci i t) (g : gok lay sz) (h : GR ci lay sz T b n w) (hi : gnth lay i = some (0, 0, 0, 0)) (hnar : narrow t (.int x) = .int x) (hfit : fits t (.int x) = true) (kk : ∀ w', GR ci lay sz (tup T i 0 x) b n w' → Fr b (b + sz + 1) w w' → Ev E M q L st n w' cs Q) : Ev E M pc L (.int x :: .ref b :: st) n w cs Q :=
  st_putfield d hq fl (by have := h.1; omega) h.2.1 (gfs_0 T b lay 0 i hi) hnar hfit rfl (kk _ (GR.put g h hi).1 (GR.put g h hi).2)
theorem g_iast {i o len j : Nat} {x y : Int32} (d : decode (ev_cc M) pc = .ok (.iastore, 1)) (hq : pc + 1 = q) (g : gok lay sz) (h : GR ci lay sz T b n w) (hi : gnth lay i = some (1, o, 0, len)) (hx : ev_ix x len j) (kk : ∀ w', GR ci lay sz (tup T i j y) b n w' → Fr b (b + sz + 1) w w' → Ev E M q L st n w' cs Q) : Ev E M pc L (.int y :: .int x :: .ref (b + o) :: st) n w cs Q := by
  obtain ⟨f, e1, e2⟩ := h.2.2 i o 0 len hi
  exact st_iastore d hq (by have := h.1; have := (g.1 i (gnth_lt _ _ _ hi) _ hi rfl).2; simp only at this; omega) e1 hx (kk _ (GR.ast g h hi e2).1 (GR.ast g h hi e2).2)
theorem g_bast {i o len j : Nat} {x y : Int32} (d : decode (ev_cc M) pc = .ok (.bastore, 1)) (hq : pc + 1 = q) (g : gok lay sz) (h : GR ci lay sz T b n w) (hi : gnth lay i = some (1, o, 1, len)) (hx : ev_ix x len j) (kk : ∀ w', GR ci lay sz (tup T i j (vp_nar .byte y)) b n w' → Fr b (b + sz + 1) w w' → Ev E M q L st n w' cs Q) : Ev E M pc L (.int y :: .int x :: .ref (b + o) :: st) n w cs Q := by
  obtain ⟨f, e1, e2⟩ := h.2.2 i o 1 len hi
  exact st_bastore d hq (by have := h.1; have := (g.1 i (gnth_lt _ _ _ hi) _ hi rfl).2; simp only at this; omega) e1 hx (kk _ (GR.ast g h hi e2).1 (GR.ast g h hi e2).2)
theorem g_zast {i o len j : Nat} {x y : Int32} (d : decode (ev_cc M) pc = .ok (.bastore, 1)) (hq : pc + 1 = q) (g : gok lay sz) (h : GR ci lay sz T b n w) (hi : gnth lay i = some (1, o, 2, len)) (hx : ev_ix x len j) (kk : ∀ w', GR ci lay sz (tup T i j (vp_nar .boolean y)) b n w' → Fr b (b + sz + 1) w w' → Ev E M q L st n w' cs Q) : Ev E M pc L (.int y :: .int x :: .ref (b + o) :: st) n w cs Q := by
  obtain ⟨f, e1, e2⟩ := h.2.2 i o 2 len hi
  exact st_zastore d hq (by have := h.1; have := (g.1 i (gnth_lt _ _ _ hi) _ hi rfl).2; simp only at this; omega) e1 hx (kk _ (GR.ast g h hi e2).1 (GR.ast g h hi e2).2)
theorem g_alen {i o ty len : Nat} {t : FieldType} {v : Int32} (d : decode (ev_cc M) pc = .ok (.arraylength, 1)) (hq : pc + 1 = q) (g : gok lay sz) (h : GR ci lay sz T b n w) (hi : gnth lay i = some (1, o, ty, len)) (ht : (ev_tys E.2.2.1)[ty]? = some (E.2.2.1 ty, t)) (hv : Int32.ofNat len = v) (kk : Ev E M q L (.int v :: st) n w cs Q) : Ev E M pc L (.ref (b + o) :: st) n w cs Q := by
  obtain ⟨f, e1, e2⟩ := h.2.2 i o ty len hi
  exact st_alen d hq (by have := h.1; have := (g.1 i (gnth_lt _ _ _ hi) _ hi rfl).2; simp only at this; omega) e1 ht hv kk
theorem g_rv {C : String} {T9 : u_T} {N : Nat} (h : GR ci lay sz T b n w) (hc : vwCl[ci]? = some (C, T9, N)) : ev_rv b C n w := Or.inl ⟨by have := h.1; omega, ci, _, T9, N, h.2.1, hc⟩
end EVG
section EVK
variable {E : ev_E} {M : ev_M} {pc q : Nat} {L : List (Option Value)} {st : List Value} {n : Nat} {w : ev_W} {cs : Nat × Nat} {Q : Option Value → Nat → ev_W → Prop}
theorem st_tabK {x v : Int32} {dflt lo hi : Int} {offs : Array Int} {len tgt : Nat} {off : Int} (k : Nat) (d : decode (ev_cc M) pc = .ok (.tableswitch dflt lo hi offs, len)) (ho : offs[k]? = some off) (ht : (pc : Int) + off = (tgt : Int)) (hv : v.toInt = lo + k) (hh : lo + k ≤ hi) (kt : x = v → Ev E M tgt L st n w cs Q) (kf : ¬ x = v → x.toInt ≠ lo + k → Ev E M pc L (.int x :: st) n w cs Q) : Ev E M pc L (.int x :: st) n w cs Q := by
  by_cases h : x = v
  · have hx : x.toInt = lo + k := by rw [h]; exact hv
    exact st_tableIn d (by omega) (by omega) (by rw [show (x.toInt - lo).toNat = k by omega]; exact ho) ht (kt h)
  · exact kf h (fun e => h (Int32.toInt_inj.mp (e.trans hv.symm)))
theorem st_lkK {x v : Int32} {dflt : Int} {ps : Array (Int × Int)} {len tgt : Nat} {off key : Int} (d : decode (ev_cc M) pc = .ok (.lookupswitch dflt ps, len)) (hp : (ps.toList.zip (ps.toList.drop 1)).all (fun (a, next) => a.1 < next.1) = true) (hk9 : v.toInt = key) (ho : Op.lookupswitch.offset ps.toList dflt key = off) (ht : (pc : Int) + off = (tgt : Int)) (kt : x = v → Ev E M tgt L st n w cs Q) (kf : ¬ x = v → ¬ key = x.toInt → Ev E M pc L (.int x :: st) n w cs Q) : Ev E M pc L (.int x :: st) n w cs Q := by
  by_cases h : x = v
  · exact st_lookup d hp (by rw [h, hk9]; exact ho) ht (kt h)
  · exact kf h (fun e => h (Int32.toInt_inj.mp (e.symm.trans hk9.symm)))
end EVK
def zI (b : Bool) : Int32 := if b = true then 1 else 0
theorem zI_nar (b : Bool) : narrow .boolean (.int (zI b)) = .int (zI b) := by cases b <;> rfl
theorem zI_fit (b : Bool) : fits .boolean (.int (zI b)) = true := by cases b <;> rfl
theorem zI_0 {b : Bool} : zI b = 0 ↔ b = false := by cases b <;> decide
theorem zI_1 {b : Bool} : ¬ zI b = 0 ↔ b = true := by cases b <;> decide
abbrev ev_ch (v : Option Value) (n : Nat) (w : ev_W) (lo hi : Nat) (G : ev_W → Prop) : Option Value → Nat → ev_W → Prop := fun a m u => a = v ∧ m = n ∧ G u ∧ Fr lo hi w u
theorem bp_10 : (Int8.ofInt (10)).toInt32 = ((10) : Int32) := by decide +kernel
theorem bp_100 : (Int8.ofInt (100)).toInt32 = ((100) : Int32) := by decide +kernel
theorem bp_101 : (Int8.ofInt (101)).toInt32 = ((101) : Int32) := by decide +kernel
theorem bp_102 : (Int8.ofInt (102)).toInt32 = ((102) : Int32) := by decide +kernel
theorem bp_104 : (Int8.ofInt (104)).toInt32 = ((104) : Int32) := by decide +kernel
theorem bp_105 : (Int8.ofInt (105)).toInt32 = ((105) : Int32) := by decide +kernel
theorem bp_108 : (Int8.ofInt (108)).toInt32 = ((108) : Int32) := by decide +kernel
theorem bp_11 : (Int8.ofInt (11)).toInt32 = ((11) : Int32) := by decide +kernel
theorem bp_110 : (Int8.ofInt (110)).toInt32 = ((110) : Int32) := by decide +kernel
theorem bp_111 : (Int8.ofInt (111)).toInt32 = ((111) : Int32) := by decide +kernel
theorem bp_112 : (Int8.ofInt (112)).toInt32 = ((112) : Int32) := by decide +kernel
theorem bp_114 : (Int8.ofInt (114)).toInt32 = ((114) : Int32) := by decide +kernel
theorem bp_115 : (Int8.ofInt (115)).toInt32 = ((115) : Int32) := by decide +kernel
theorem bp_116 : (Int8.ofInt (116)).toInt32 = ((116) : Int32) := by decide +kernel
theorem bp_117 : (Int8.ofInt (117)).toInt32 = ((117) : Int32) := by decide +kernel
theorem bp_118 : (Int8.ofInt (118)).toInt32 = ((118) : Int32) := by decide +kernel
theorem bp_119 : (Int8.ofInt (119)).toInt32 = ((119) : Int32) := by decide +kernel
theorem bp_12 : (Int8.ofInt (12)).toInt32 = ((12) : Int32) := by decide +kernel
theorem bp_122 : (Int8.ofInt (122)).toInt32 = ((122) : Int32) := by decide +kernel
theorem bp_127 : (Int8.ofInt (127)).toInt32 = ((127) : Int32) := by decide +kernel
theorem bp_13 : (Int8.ofInt (13)).toInt32 = ((13) : Int32) := by decide +kernel
theorem bp_14 : (Int8.ofInt (14)).toInt32 = ((14) : Int32) := by decide +kernel
theorem bp_15 : (Int8.ofInt (15)).toInt32 = ((15) : Int32) := by decide +kernel
theorem bp_16 : (Int8.ofInt (16)).toInt32 = ((16) : Int32) := by decide +kernel
theorem bp_17 : (Int8.ofInt (17)).toInt32 = ((17) : Int32) := by decide +kernel
theorem bp_18 : (Int8.ofInt (18)).toInt32 = ((18) : Int32) := by decide +kernel
theorem bp_19 : (Int8.ofInt (19)).toInt32 = ((19) : Int32) := by decide +kernel
theorem bp_20 : (Int8.ofInt (20)).toInt32 = ((20) : Int32) := by decide +kernel
theorem bp_21 : (Int8.ofInt (21)).toInt32 = ((21) : Int32) := by decide +kernel
theorem bp_22 : (Int8.ofInt (22)).toInt32 = ((22) : Int32) := by decide +kernel
theorem bp_23 : (Int8.ofInt (23)).toInt32 = ((23) : Int32) := by decide +kernel
theorem bp_24 : (Int8.ofInt (24)).toInt32 = ((24) : Int32) := by decide +kernel
theorem bp_25 : (Int8.ofInt (25)).toInt32 = ((25) : Int32) := by decide +kernel
theorem bp_26 : (Int8.ofInt (26)).toInt32 = ((26) : Int32) := by decide +kernel
theorem bp_27 : (Int8.ofInt (27)).toInt32 = ((27) : Int32) := by decide +kernel
theorem bp_28 : (Int8.ofInt (28)).toInt32 = ((28) : Int32) := by decide +kernel
theorem bp_29 : (Int8.ofInt (29)).toInt32 = ((29) : Int32) := by decide +kernel
theorem bp_30 : (Int8.ofInt (30)).toInt32 = ((30) : Int32) := by decide +kernel
theorem bp_31 : (Int8.ofInt (31)).toInt32 = ((31) : Int32) := by decide +kernel
theorem bp_32 : (Int8.ofInt (32)).toInt32 = ((32) : Int32) := by decide +kernel
theorem bp_33 : (Int8.ofInt (33)).toInt32 = ((33) : Int32) := by decide +kernel
theorem bp_34 : (Int8.ofInt (34)).toInt32 = ((34) : Int32) := by decide +kernel
theorem bp_35 : (Int8.ofInt (35)).toInt32 = ((35) : Int32) := by decide +kernel
theorem bp_36 : (Int8.ofInt (36)).toInt32 = ((36) : Int32) := by decide +kernel
theorem bp_37 : (Int8.ofInt (37)).toInt32 = ((37) : Int32) := by decide +kernel
theorem bp_38 : (Int8.ofInt (38)).toInt32 = ((38) : Int32) := by decide +kernel
theorem bp_40 : (Int8.ofInt (40)).toInt32 = ((40) : Int32) := by decide +kernel
theorem bp_44 : (Int8.ofInt (44)).toInt32 = ((44) : Int32) := by decide +kernel
theorem bp_48 : (Int8.ofInt (48)).toInt32 = ((48) : Int32) := by decide +kernel
theorem bp_50 : (Int8.ofInt (50)).toInt32 = ((50) : Int32) := by decide +kernel
theorem bp_52 : (Int8.ofInt (52)).toInt32 = ((52) : Int32) := by decide +kernel
theorem bp_57 : (Int8.ofInt (57)).toInt32 = ((57) : Int32) := by decide +kernel
theorem bp_59 : (Int8.ofInt (59)).toInt32 = ((59) : Int32) := by decide +kernel
theorem bp_6 : (Int8.ofInt (6)).toInt32 = ((6) : Int32) := by decide +kernel
theorem bp_60 : (Int8.ofInt (60)).toInt32 = ((60) : Int32) := by decide +kernel
theorem bp_63 : (Int8.ofInt (63)).toInt32 = ((63) : Int32) := by decide +kernel
theorem bp_67 : (Int8.ofInt (67)).toInt32 = ((67) : Int32) := by decide +kernel
theorem bp_68 : (Int8.ofInt (68)).toInt32 = ((68) : Int32) := by decide +kernel
theorem bp_69 : (Int8.ofInt (69)).toInt32 = ((69) : Int32) := by decide +kernel
theorem bp_7 : (Int8.ofInt (7)).toInt32 = ((7) : Int32) := by decide +kernel
theorem bp_70 : (Int8.ofInt (70)).toInt32 = ((70) : Int32) := by decide +kernel
theorem bp_71 : (Int8.ofInt (71)).toInt32 = ((71) : Int32) := by decide +kernel
theorem bp_8 : (Int8.ofInt (8)).toInt32 = ((8) : Int32) := by decide +kernel
theorem bp_9 : (Int8.ofInt (9)).toInt32 = ((9) : Int32) := by decide +kernel
theorem bp_97 : (Int8.ofInt (97)).toInt32 = ((97) : Int32) := by decide +kernel
theorem bp_99 : (Int8.ofInt (99)).toInt32 = ((99) : Int32) := by decide +kernel
theorem bp_m10 : (Int8.ofInt (-10)).toInt32 = ((-10) : Int32) := by decide +kernel
theorem bp_m11 : (Int8.ofInt (-11)).toInt32 = ((-11) : Int32) := by decide +kernel
theorem bp_m12 : (Int8.ofInt (-12)).toInt32 = ((-12) : Int32) := by decide +kernel
theorem bp_m14 : (Int8.ofInt (-14)).toInt32 = ((-14) : Int32) := by decide +kernel
theorem bp_m2 : (Int8.ofInt (-2)).toInt32 = ((-2) : Int32) := by decide +kernel
theorem bp_m20 : (Int8.ofInt (-20)).toInt32 = ((-20) : Int32) := by decide +kernel
theorem bp_m3 : (Int8.ofInt (-3)).toInt32 = ((-3) : Int32) := by decide +kernel
theorem bp_m4 : (Int8.ofInt (-4)).toInt32 = ((-4) : Int32) := by decide +kernel
theorem ic_0 : Int32.ofInt (0) = ((0) : Int32) := by decide +kernel
theorem ic_1 : Int32.ofInt (1) = ((1) : Int32) := by decide +kernel
theorem ic_2 : Int32.ofInt (2) = ((2) : Int32) := by decide +kernel
theorem ic_3 : Int32.ofInt (3) = ((3) : Int32) := by decide +kernel
theorem ic_4 : Int32.ofInt (4) = ((4) : Int32) := by decide +kernel
theorem ic_5 : Int32.ofInt (5) = ((5) : Int32) := by decide +kernel
theorem ic_m1 : Int32.ofInt (-1) = ((-1) : Int32) := by decide +kernel
theorem lc_0 : Int64.ofNat (((0) : Fin 2) : Nat) = ((0) : Int64) := by decide +kernel
theorem lc_1 : Int64.ofNat (((1) : Fin 2) : Nat) = ((1) : Int64) := by decide +kernel
theorem sp_1000 : (Int16.ofInt (1000)).toInt32 = ((1000) : Int32) := by decide +kernel
theorem sp_12345 : (Int16.ofInt (12345)).toInt32 = ((12345) : Int32) := by decide +kernel
theorem sp_160 : (Int16.ofInt (160)).toInt32 = ((160) : Int32) := by decide +kernel
theorem sp_213 : (Int16.ofInt (213)).toInt32 = ((213) : Int32) := by decide +kernel
theorem sp_255 : (Int16.ofInt (255)).toInt32 = ((255) : Int32) := by decide +kernel
theorem sp_256 : (Int16.ofInt (256)).toInt32 = ((256) : Int32) := by decide +kernel
theorem sp_284 : (Int16.ofInt (284)).toInt32 = ((284) : Int32) := by decide +kernel
theorem sp_288 : (Int16.ofInt (288)).toInt32 = ((288) : Int32) := by decide +kernel
theorem sp_296 : (Int16.ofInt (296)).toInt32 = ((296) : Int32) := by decide +kernel
theorem sp_300 : (Int16.ofInt (300)).toInt32 = ((300) : Int32) := by decide +kernel
theorem sp_32767 : (Int16.ofInt (32767)).toInt32 = ((32767) : Int32) := by decide +kernel
theorem sp_336 : (Int16.ofInt (336)).toInt32 = ((336) : Int32) := by decide +kernel
theorem sp_351 : (Int16.ofInt (351)).toInt32 = ((351) : Int32) := by decide +kernel
theorem sp_352 : (Int16.ofInt (352)).toInt32 = ((352) : Int32) := by decide +kernel
theorem sp_354 : (Int16.ofInt (354)).toInt32 = ((354) : Int32) := by decide +kernel
theorem sp_355 : (Int16.ofInt (355)).toInt32 = ((355) : Int32) := by decide +kernel
theorem sp_359 : (Int16.ofInt (359)).toInt32 = ((359) : Int32) := by decide +kernel
theorem sp_363 : (Int16.ofInt (363)).toInt32 = ((363) : Int32) := by decide +kernel
theorem sp_375 : (Int16.ofInt (375)).toInt32 = ((375) : Int32) := by decide +kernel
theorem sp_383 : (Int16.ofInt (383)).toInt32 = ((383) : Int32) := by decide +kernel
theorem sp_407 : (Int16.ofInt (407)).toInt32 = ((407) : Int32) := by decide +kernel
theorem sp_426 : (Int16.ofInt (426)).toInt32 = ((426) : Int32) := by decide +kernel
theorem sp_651 : (Int16.ofInt (651)).toInt32 = ((651) : Int32) := by decide +kernel
theorem sp_999 : (Int16.ofInt (999)).toInt32 = ((999) : Int32) := by decide +kernel
def layX0 : gL := [(1, 1, 0, 651), (0, 0, 0, 0)]
theorem gkX0 : gok layX0 1 := gok_of (by decide +kernel)
def layX1 : gL := [(2, 43, 0, 0), (2, 45, 0, 0), (1, 13, 0, 3), (0, 0, 0, 0), (0, 0, 0, 0), (0, 0, 0, 0), (0, 0, 0, 0), (0, 0, 0, 0), (0, 0, 0, 0), (0, 0, 0, 0), (0, 0, 0, 0), (0, 0, 0, 0)]
theorem gkX1 : gok layX1 13 := gok_of (by decide +kernel)
def layX2 : gL := [(1, 1, 0, 40), (0, 0, 0, 0), (0, 0, 0, 0), (0, 0, 0, 0)]
theorem gkX2 : gok layX2 1 := gok_of (by decide +kernel)
def layX3 : gL := [(1, 1, 0, 6), (1, 2, 0, 6), (0, 0, 0, 0)]
theorem gkX3 : gok layX3 2 := gok_of (by decide +kernel)
def layX4 : gL := [(1, 1, 1, 160), (0, 0, 0, 0)]
theorem gkX4 : gok layX4 1 := gok_of (by decide +kernel)
def layX5 : gL := [(0, 0, 0, 0), (1, 1, 0, 4), (1, 2, 0, 4), (1, 3, 0, 4), (1, 4, 0, 4), (0, 0, 0, 0), (0, 0, 0, 0), (1, 5, 0, 8), (1, 6, 0, 8), (1, 7, 0, 8), (1, 8, 0, 8), (0, 0, 0, 0), (0, 0, 0, 0), (1, 9, 0, 7), (0, 0, 0, 0), (0, 0, 0, 0), (0, 0, 0, 0), (0, 0, 0, 0)]
theorem gkX5 : gok layX5 9 := gok_of (by decide +kernel)
def layX6 : gL := [(2, 1, 0, 0), (2, 11, 0, 0), (2, 21, 0, 0), (0, 0, 0, 0), (2, 42, 0, 0), (0, 0, 0, 0), (2, 56, 0, 0), (2, 59, 0, 0), (2, 61, 0, 0), (0, 0, 0, 0)]
theorem gkX6 : gok layX6 0 := gok_of (by decide +kernel)
def layX7 : gL := [(1, 1, 0, 426), (0, 0, 0, 0), (0, 0, 0, 0), (1, 2, 0, 71), (0, 0, 0, 0), (0, 0, 0, 0), (0, 0, 0, 0), (0, 0, 0, 0), (0, 0, 0, 0), (1, 3, 0, 160), (0, 0, 0, 0), (0, 0, 0, 0), (0, 0, 0, 0), (0, 0, 0, 0), (0, 0, 0, 0), (0, 0, 0, 0), (0, 0, 0, 0), (0, 0, 0, 0), (1, 4, 0, 9), (1, 5, 0, 38), (0, 0, 0, 0), (1, 6, 0, 12), (0, 0, 0, 0), (1, 7, 0, 651), (1, 8, 2, 2), (1, 9, 0, 4), (1, 10, 0, 4), (1, 11, 0, 160), (0, 0, 0, 0)]
theorem gkX7 : gok layX7 11 := gok_of (by decide +kernel)
