abbrev enC : List Cond := flatC (Jvm.Cond.and given_1 narrow_1)
theorem en_T {C n : String} {l : List Int32} {args : Array Value} {s : State} {A : Nat → Prop} (hts : ∀ w ∈ tables_1, w.before args s = true) (hs : ∀ w ∈ enC, w.before args s = true) (hA : ∀ a : Nat, a < s.heap.size → ¬ A a) (hN : l.length < 2 ^ 31) (hl : Cond.laysStatic C n "[I" ∈ tables_1) (hini : Cond.initialized C ∈ tables_1) (harr : Cond.arrayOf (.static C n "[I") .int ∈ enC) (hlen : Cond.eq (.length (.static C n "[I")) (.int (Int32.ofNat l.length)) ∈ enC) (hel : ∀ j, j < l.length → Cond.eq (.elem (.static C n "[I") (.int (Int32.ofNat j))) (.int (l.getD j 0)) ∈ enC) : ∃ t : Nat, va_Z C n "[I" (.ref t) A s s.heap ∧ va_T .int t l.length (ev_li l) A s s.heap := by
  obtain ⟨t, ht, hT⟩ := va_Tof (f := ev_li l) (A := A) hN (hs _ harr) (va_eqt (hs _ hlen)) (fun j hj => va_eqt (hs _ (hel j hj))) hA
  exact ⟨t, va_Zref (hts _ hl) (hts _ hini) ht hA, hT⟩
set_option maxRecDepth 100000 in
set_option maxHeartbeats 4000000 in
theorem en_0 {args : Array Value} {s : State} {A : Nat → Prop} (hts : ∀ w ∈ tables_1, w.before args s = true) (hs : ∀ w ∈ enC, w.before args s = true) (hA : ∀ a : Nat, a < s.heap.size → ¬ A a) : ∃ t : Nat, va_Z "ArkTerrace" "HOUSE_MOST" "[I" (.ref t) A s s.heap ∧ va_T .int t 4 (ev_li [20, 40, 3, 99]) A s s.heap := en_T (C := "ArkTerrace") (n := "HOUSE_MOST") (l := [20, 40, 3, 99]) hts hs hA (by decide) (List.mem_of_getElem? (i := 514) (by decide +kernel)) (List.mem_of_getElem? (i := 1) (by decide +kernel)) (by decide +kernel) (by decide +kernel) (by decide +kernel)
set_option maxRecDepth 100000 in
set_option maxHeartbeats 4000000 in
theorem en_1 {args : Array Value} {s : State} {A : Nat → Prop} (hts : ∀ w ∈ tables_1, w.before args s = true) (hs : ∀ w ∈ enC, w.before args s = true) (hA : ∀ a : Nat, a < s.heap.size → ¬ A a) : ∃ t : Nat, va_Z "ArkTerrace" "THING_LEAST" "[I" (.ref t) A s s.heap ∧ va_T .int t 3 (ev_li [0, 1, 0]) A s s.heap := en_T (C := "ArkTerrace") (n := "THING_LEAST") (l := [0, 1, 0]) hts hs hA (by decide) (List.mem_of_getElem? (i := 523) (by decide +kernel)) (List.mem_of_getElem? (i := 1) (by decide +kernel)) (by decide +kernel) (by decide +kernel) (by decide +kernel)
set_option maxRecDepth 100000 in
set_option maxHeartbeats 4000000 in
theorem en_2 {args : Array Value} {s : State} {A : Nat → Prop} (hts : ∀ w ∈ tables_1, w.before args s = true) (hs : ∀ w ∈ enC, w.before args s = true) (hA : ∀ a : Nat, a < s.heap.size → ¬ A a) : ∃ t : Nat, va_Z "ArkTerrace" "THING_MOST" "[I" (.ref t) A s s.heap ∧ va_T .int t 3 (ev_li [3, 9, 9]) A s s.heap := en_T (C := "ArkTerrace") (n := "THING_MOST") (l := [3, 9, 9]) hts hs hA (by decide) (List.mem_of_getElem? (i := 525) (by decide +kernel)) (List.mem_of_getElem? (i := 1) (by decide +kernel)) (by decide +kernel) (by decide +kernel) (by decide +kernel)
set_option maxRecDepth 100000 in
set_option maxHeartbeats 4000000 in
theorem en_3 {args : Array Value} {s : State} {A : Nat → Prop} (hts : ∀ w ∈ tables_1, w.before args s = true) (hs : ∀ w ∈ enC, w.before args s = true) (hA : ∀ a : Nat, a < s.heap.size → ¬ A a) : ∃ t : Nat, va_Z "ArkTerrace$Reader" "HOUSE_LEAST" "[I" (.ref t) A s s.heap ∧ va_T .int t 3 (ev_li [0, 0, 0]) A s s.heap := en_T (C := "ArkTerrace$Reader") (n := "HOUSE_LEAST") (l := [0, 0, 0]) hts hs hA (by decide) (List.mem_of_getElem? (i := 400) (by decide +kernel)) (List.mem_of_getElem? (i := 4) (by decide +kernel)) (by decide +kernel) (by decide +kernel) (by decide +kernel)
set_option maxRecDepth 100000 in
set_option maxHeartbeats 4000000 in
theorem en_4 {args : Array Value} {s : State} {A : Nat → Prop} (hts : ∀ w ∈ tables_1, w.before args s = true) (hs : ∀ w ∈ enC, w.before args s = true) (hA : ∀ a : Nat, a < s.heap.size → ¬ A a) : ∃ t : Nat, va_Z "ArkTerrace$Reader" "HOUSE_LINE_MOST" "[I" (.ref t) A s s.heap ∧ va_T .int t 3 (ev_li [20, 40, 3]) A s s.heap := en_T (C := "ArkTerrace$Reader") (n := "HOUSE_LINE_MOST") (l := [20, 40, 3]) hts hs hA (by decide) (List.mem_of_getElem? (i := 405) (by decide +kernel)) (List.mem_of_getElem? (i := 4) (by decide +kernel)) (by decide +kernel) (by decide +kernel) (by decide +kernel)
set_option maxRecDepth 100000 in
set_option maxHeartbeats 4000000 in
theorem en_5 {args : Array Value} {s : State} {A : Nat → Prop} (hts : ∀ w ∈ tables_1, w.before args s = true) (hs : ∀ w ∈ enC, w.before args s = true) (hA : ∀ a : Nat, a < s.heap.size → ¬ A a) : ∃ t : Nat, va_Z "ArkTerrace$Reader" "LEVEL_LINE_MOST" "[I" (.ref t) A s s.heap ∧ va_T .int t 1 (ev_li [20]) A s s.heap := en_T (C := "ArkTerrace$Reader") (n := "LEVEL_LINE_MOST") (l := [20]) hts hs hA (by decide) (List.mem_of_getElem? (i := 411) (by decide +kernel)) (List.mem_of_getElem? (i := 4) (by decide +kernel)) (by decide +kernel) (by decide +kernel) (by decide +kernel)
set_option maxRecDepth 100000 in
set_option maxHeartbeats 4000000 in
theorem en_6 {args : Array Value} {s : State} {A : Nat → Prop} (hts : ∀ w ∈ tables_1, w.before args s = true) (hs : ∀ w ∈ enC, w.before args s = true) (hA : ∀ a : Nat, a < s.heap.size → ¬ A a) : ∃ t : Nat, va_Z "ArkTerrace$Reader" "RISE_LINE_MOST" "[I" (.ref t) A s s.heap ∧ va_T .int t 2 (ev_li [6, 8]) A s s.heap := en_T (C := "ArkTerrace$Reader") (n := "RISE_LINE_MOST") (l := [6, 8]) hts hs hA (by decide) (List.mem_of_getElem? (i := 407) (by decide +kernel)) (List.mem_of_getElem? (i := 4) (by decide +kernel)) (by decide +kernel) (by decide +kernel) (by decide +kernel)
set_option maxRecDepth 100000 in
set_option maxHeartbeats 4000000 in
theorem en_7 {args : Array Value} {s : State} {A : Nat → Prop} (hts : ∀ w ∈ tables_1, w.before args s = true) (hs : ∀ w ∈ enC, w.before args s = true) (hA : ∀ a : Nat, a < s.heap.size → ¬ A a) : ∃ t : Nat, va_Z "ArkTerrace$Reader" "THING_LINE_LEAST" "[I" (.ref t) A s s.heap ∧ va_T .int t 3 (ev_li [0, 1, 0]) A s s.heap := en_T (C := "ArkTerrace$Reader") (n := "THING_LINE_LEAST") (l := [0, 1, 0]) hts hs hA (by decide) (List.mem_of_getElem? (i := 398) (by decide +kernel)) (List.mem_of_getElem? (i := 4) (by decide +kernel)) (by decide +kernel) (by decide +kernel) (by decide +kernel)
set_option maxRecDepth 100000 in
set_option maxHeartbeats 4000000 in
theorem en_8 {args : Array Value} {s : State} {A : Nat → Prop} (hts : ∀ w ∈ tables_1, w.before args s = true) (hs : ∀ w ∈ enC, w.before args s = true) (hA : ∀ a : Nat, a < s.heap.size → ¬ A a) : ∃ t : Nat, va_Z "ArkTerrace$Reader" "THING_LINE_MOST" "[I" (.ref t) A s s.heap ∧ va_T .int t 3 (ev_li [3, 9, 9]) A s s.heap := en_T (C := "ArkTerrace$Reader") (n := "THING_LINE_MOST") (l := [3, 9, 9]) hts hs hA (by decide) (List.mem_of_getElem? (i := 413) (by decide +kernel)) (List.mem_of_getElem? (i := 4) (by decide +kernel)) (by decide +kernel) (by decide +kernel) (by decide +kernel)
set_option maxRecDepth 100000 in
set_option maxHeartbeats 4000000 in
theorem en_9 {args : Array Value} {s : State} {A : Nat → Prop} (hts : ∀ w ∈ tables_1, w.before args s = true) (hs : ∀ w ∈ enC, w.before args s = true) (hA : ∀ a : Nat, a < s.heap.size → ¬ A a) : ∃ t : Nat, va_Z "ArkTerrace$Reader" "WIND_LINE_MOST" "[I" (.ref t) A s s.heap ∧ va_T .int t 1 (ev_li [8]) A s s.heap := en_T (C := "ArkTerrace$Reader") (n := "WIND_LINE_MOST") (l := [8]) hts hs hA (by decide) (List.mem_of_getElem? (i := 409) (by decide +kernel)) (List.mem_of_getElem? (i := 4) (by decide +kernel)) (by decide +kernel) (by decide +kernel) (by decide +kernel)
def siL : List Nat := [169, 171, 173, 175, 177, 179, 181, 182]
def enS (i : Nat) : Term := Term.string RX1 (siL.getD i 0)
set_option maxRecDepth 100000 in
set_option maxHeartbeats 4000000 in
theorem en_ex : ∀ i, i < 8 → Cond.exactly (enS i) "java/lang/String" ∈ enC := by decide +kernel
set_option maxRecDepth 100000 in
set_option maxHeartbeats 4000000 in
theorem en_co : ∀ i, i < 8 → Cond.eq (.field (enS i) "java/lang/String" "coder" "B") (.int 0) ∈ enC := by decide +kernel
set_option maxRecDepth 100000 in
set_option maxHeartbeats 4000000 in
theorem en_ar : ∀ i, i < 8 → Cond.arrayOf (.field (enS i) "java/lang/String" "value" "[B") .byte ∈ enC := by decide +kernel
set_option maxRecDepth 100000 in
set_option maxHeartbeats 4000000 in
theorem en_le : ∀ i, i < 8 → Cond.eq (.length (.field (enS i) "java/lang/String" "value" "[B")) (.int (Int32.ofNat (ev_sb i).length)) ∈ enC := by decide +kernel
set_option maxRecDepth 100000 in
set_option maxHeartbeats 4000000 in
theorem en_el : ∀ i, i < 8 → ∀ j, j < (ev_sb i).length → Cond.eq (.elem (.field (enS i) "java/lang/String" "value" "[B") (.int (Int32.ofNat j))) (.int ((ev_sb i).getD j 0)) ∈ enC := by decide +kernel
theorem en_sz : ∀ i, i < 8 → (ev_sb i).length < 2 ^ 31 := by decide
theorem en_S {args : Array Value} {s : State} {A : Nat → Prop} (hs : ∀ w ∈ enC, w.before args s = true) (hA : ∀ a : Nat, a < s.heap.size → ¬ A a) : ∀ i : Nat, ∃ q : Nat × Nat, i < 8 → (enS i).eval args s none [] s = some (.ref q.1) ∧ va_O "java/lang/String" q.1 A s s.heap ∧ va_OF "java/lang/String" "coder" "B" (.int 0) q.1 A s s.heap ∧ va_OF "java/lang/String" "value" "[B" (.ref q.2) q.1 A s s.heap ∧ va_T .byte q.2 (ev_sb i).length (ev_li (ev_sb i)) A s s.heap := by
  intro i
  by_cases hi : i < 8
  · obtain ⟨t, ht, hT⟩ := va_Tof (f := ev_li (ev_sb i)) (A := A) (en_sz i hi) (hs _ (en_ar i hi)) (va_eqt (hs _ (en_le i hi))) (fun j hj => va_eqt (hs _ (en_el i hi j hj))) hA
    obtain ⟨a, c, cA, kA, q1, q2, q3, q4, q5, q6, -⟩ := Cond.exactly_spec (args := args) (first := s) (o := none) (s := s) (idx := []) (t := enS i) (cls := "java/lang/String") (hs _ (en_ex i hi))
    exact ⟨(a, t), fun _ => ⟨q1, ⟨cA, q3, q5, by rw [q6]; exact q2, hA a (Array.getElem?_eq_some_iff.mp q3).1⟩, vk_OFof q1 (va_eqt (hs _ (en_co i hi))) hA, vk_OFof q1 ht hA, hT⟩⟩
  · exact ⟨(0, 0), fun h => absurd h hi⟩
set_option maxRecDepth 100000 in
set_option maxHeartbeats 4000000 in
theorem en_K {args : Array Value} {s : State} (hts : ∀ w ∈ ev_tbl, w.before args s = true) (ht1 : ∀ w ∈ tables_1, w.before args s = true) : ∃ (D : va_G) (cA : Nat → ClassId), va_K D vwCl (ev_tys cA) s := by
  have hc : ∀ c : Nat, ∃ r : ClassId × (Nat → Nat), ∀ q, vwCl[c]? = some q → u_Kn s q.1 q.2.1 q.2.2 r.1 r.2 := by
    intro c
    match c with
    | 0 => obtain ⟨cC, iS, h⟩ := u_known hts ci_X0.2.1 (hts _ is_X0); exact ⟨(cC, iS), fun q hq => by cases (show some (RX0, TX0, 2) = some q from hq); exact h⟩
    | 1 => obtain ⟨cC, iS, h⟩ := u_known hts ci_X1.2.1 (hts _ is_X1); exact ⟨(cC, iS), fun q hq => by cases (show some (RX1, TX1, 12) = some q from hq); exact h⟩
    | 2 => obtain ⟨cC, iS, h⟩ := u_known hts ci_X2.2.1 (hts _ is_X2); exact ⟨(cC, iS), fun q hq => by cases (show some (RX2, TX2, 4) = some q from hq); exact h⟩
    | 3 => obtain ⟨cC, iS, h⟩ := u_known hts ci_X3.2.1 (hts _ is_X3); exact ⟨(cC, iS), fun q hq => by cases (show some (RX3, TX3, 3) = some q from hq); exact h⟩
    | 4 => obtain ⟨cC, iS, h⟩ := u_known hts ci_X4.2.1 (hts _ is_X4); exact ⟨(cC, iS), fun q hq => by cases (show some (RX4, TX4, 2) = some q from hq); exact h⟩
    | 5 => obtain ⟨cC, iS, h⟩ := u_known hts ci_X5.2.1 (hts _ is_X5); exact ⟨(cC, iS), fun q hq => by cases (show some (RX5, TX5, 18) = some q from hq); exact h⟩
    | 6 => obtain ⟨cC, iS, h⟩ := u_known hts ci_X6.2.1 (hts _ is_X6); exact ⟨(cC, iS), fun q hq => by cases (show some (RX6, TX6, 10) = some q from hq); exact h⟩
    | 7 => obtain ⟨cC, iS, h⟩ := u_known hts ci_X7.2.1 (hts _ is_X7); exact ⟨(cC, iS), fun q hq => by cases (show some (RX7, TX7, 29) = some q from hq); exact h⟩
    | c + 8 => exact ⟨(0, fun _ => 0), fun q hq => by cases (show none = some q from hq)⟩
  obtain ⟨r, hr⟩ := Classical.axiomOfChoice hc
  obtain ⟨c0, k0, m0, a0, b0, d0⟩ := Cond.arrayClass_spec (ht1 (.arrayClass .int) (List.mem_of_getElem? (i := 114) (by decide +kernel)))
  obtain ⟨c1, k1, m1, a1, b1, d1⟩ := Cond.arrayClass_spec (ht1 (.arrayClass .byte) (List.mem_of_getElem? (i := 138) (by decide +kernel)))
  obtain ⟨c2, k2, m2, a2, b2, d2⟩ := Cond.arrayClass_spec (ht1 (.arrayClass .boolean) (List.mem_of_getElem? (i := 937) (by decide +kernel)))
  obtain ⟨m3, c3, k3, a3, -, b3, d3, e3⟩ := Cond.arrayOver_spec (ht1 (.arrayOver (.object RX5)) (List.mem_of_getElem? (i := 115) (by decide +kernel)))
  obtain ⟨m4, c4, k4, a4, -, b4, d4, e4⟩ := Cond.arrayOver_spec (ht1 (.arrayOver (.object RX2)) (List.mem_of_getElem? (i := 214) (by decide +kernel)))
  refine ⟨(fun c => (r c).1, fun c => (r c).2), fun k => [c0, c1, c2, c3, c4].getD k 0, fun c q hq => hr c q hq, fun k q hq => ?_⟩
  match k with
  | 0 => cases (show some (c0, FieldType.int) = some q from hq); exact ⟨fun n z => ⟨fun k h => (by cases h), k0, b0, m0, d0⟩, a0⟩
  | 1 => cases (show some (c1, FieldType.byte) = some q from hq); exact ⟨fun n z => ⟨fun k h => (by cases h), k1, b1, m1, d1⟩, a1⟩
  | 2 => cases (show some (c2, FieldType.boolean) = some q from hq); exact ⟨fun n z => ⟨fun k h => (by cases h), k2, b2, m2, d2⟩, a2⟩
  | 3 => cases (show some (c3, FieldType.object RX5) = some q from hq); exact ⟨fun n z => ⟨fun k h => (by cases h), k3, b3, m3, d3⟩, k3, m3, b3, d3, a3, e3⟩
  | 4 => cases (show some (c4, FieldType.object RX2) = some q from hq); exact ⟨fun n z => ⟨fun k h => (by cases h), k4, b4, m4, d4⟩, k4, m4, b4, d4, a4, e4⟩
  | k + 5 => cases (show none = some q from hq)
def enAd (t : Nat → Nat) (b tf : Nat) (K V : Nat → Nat) : Nat → Nat := fun k => if k < 1010 then t (k - 1000) else if k = 1010 then b else if k = 1011 then tf else if k < 1110 then K (k - 1100) else V (k - 1110)
theorem enAd_K {t : Nat → Nat} {b tf : Nat} {K V : Nat → Nat} {i : Nat} (hi : i < 8) : enAd t b tf K V (1100 + i) = K i := by
  unfold enAd
  rw [if_neg (by omega), if_neg (by omega), if_neg (by omega), if_pos (by omega), show 1100 + i - 1100 = i by omega]
theorem enAd_V {t : Nat → Nat} {b tf : Nat} {K V : Nat → Nat} {i : Nat} : enAd t b tf K V (1110 + i) = V i := by
  unfold enAd
  rw [if_neg (by omega), if_neg (by omega), if_neg (by omega), if_neg (by omega), show 1110 + i - 1110 = i by omega]
set_option maxRecDepth 100000 in
set_option maxHeartbeats 4000000 in
theorem en_fm {args : Array Value} {s : State} {A : Nat → Prop} (hts : ∀ w ∈ tables_1, w.before args s = true) (hs : ∀ w ∈ enC, w.before args s = true) (hA : ∀ a : Nat, a < s.heap.size → ¬ A a) : ∃ fb tf : Nat, ∀ ad : Nat → Nat, ad 1011 = tf → ∀ E : ev_E, E.2.2.1 9 = fb → va_Z "jdk/internal/util/Preconditions" "SIOOBE_FORMATTER" "Ljava/util/function/BiFunction;" (ev_cv ad (ev_fm E)) A s s.heap := by
  rcases va_Zqof (C := "jdk/internal/util/Preconditions") (n := "SIOOBE_FORMATTER") (d := "Ljava/util/function/BiFunction;") (hts _ (List.mem_of_getElem? (i := 366) (by decide +kernel))) (hts _ (List.mem_of_getElem? (i := 12) (by decide +kernel))) (hs _ (by decide +kernel)) hA with h | ⟨t, h⟩
  · refine ⟨0, 0, fun ad _ E hE => ?_⟩
    have e : ev_fm E = .null := by unfold ev_fm; rw [hE]; rfl
    rw [e]; exact h
  · refine ⟨1, t, fun ad ht E hE => ?_⟩
    have e : ev_fm E = .ref 1011 := by unfold ev_fm; rw [hE]; rfl
    rw [e]
    show va_Z _ _ _ (.ref (ad 1011)) A s s.heap
    rw [ht]; exact h
set_option maxRecDepth 100000 in
set_option maxHeartbeats 4000000 in
theorem en_H {b L : Nat} {xs : Nat → Int32} {args : Array Value} {s : State} {A : Nat → Prop} (hts : ∀ w ∈ tables_1, w.before args s = true) (hs : ∀ w ∈ enC, w.before args s = true) (hA : ∀ a : Nat, a < s.heap.size → ¬ A a) (hX : va_X b L xs s s.heap) (hb : b < s.heap.size) : ∃ (fb : Nat) (ad : Nat → Nat), ad 1010 = b ∧ ∀ (E : ev_E), E.2.2.1 9 = fb → E.2.2.2.1 = L → E.2.2.2.2 = xs → ev_H E A ad s s.heap := by
  obtain ⟨t0, z0, y0⟩ := en_0 hts hs hA
  obtain ⟨t1, z1, y1⟩ := en_1 hts hs hA
  obtain ⟨t2, z2, y2⟩ := en_2 hts hs hA
  obtain ⟨t3, z3, y3⟩ := en_3 hts hs hA
  obtain ⟨t4, z4, y4⟩ := en_4 hts hs hA
  obtain ⟨t5, z5, y5⟩ := en_5 hts hs hA
  obtain ⟨t6, z6, y6⟩ := en_6 hts hs hA
  obtain ⟨t7, z7, y7⟩ := en_7 hts hs hA
  obtain ⟨t8, z8, y8⟩ := en_8 hts hs hA
  obtain ⟨t9, z9, y9⟩ := en_9 hts hs hA
  obtain ⟨q, hq⟩ := Classical.axiomOfChoice (en_S hs hA)
  have hcs : va_Z "java/lang/String" "COMPACT_STRINGS" "Z" (.int 1) A s s.heap := va_Zof (hts _ (List.mem_of_getElem? (i := 350) (by decide +kernel))) (hts _ (List.mem_of_getElem? (i := 10) (by decide +kernel))) (va_eqt (hs _ (by decide +kernel))) hA
  have hsc : va_T .int b L (fun j => .int (xs j)) A s s.heap := by
    obtain ⟨scr, h1, h2, h3, h4, h5⟩ := hX
    exact ⟨scr, h1, h2, h3, by omega, by rw [h4], h5, hA b hb⟩
  obtain ⟨fb, tf, hfm⟩ := en_fm hts hs hA
  refine ⟨fb, enAd (fun i => [t0, t1, t2, t3, t4, t5, t6, t7, t8, t9].getD i 0) b tf (fun i => (q i).1) (fun i => (q i).2), rfl, fun E e1 e2 e3 => ?_⟩
  refine ⟨fun r hr => ?_, fun r hr => ?_, fun r hr => ?_, fun r hr => ?_, fun r hr => ?_, fun r hr => ?_, va_AO.of (hts _ (List.mem_of_getElem? (i := 115) (by decide +kernel))), va_AO.of (hts _ (List.mem_of_getElem? (i := 214) (by decide +kernel)))⟩
  · rcases List.mem_append.mp hr with hr | hr
    · simp only [ev_st0, List.mem_cons, List.not_mem_nil, or_false] at hr
      rcases hr with rfl | rfl | rfl | rfl | rfl | rfl | rfl | rfl | rfl | rfl | rfl
      · exact z0
      · exact z1
      · exact z2
      · exact z3
      · exact z4
      · exact z5
      · exact z6
      · exact z7
      · exact z8
      · exact z9
      · exact hcs
    · rw [List.mem_singleton.mp hr]; exact hfm _ rfl E e1
  · rcases List.mem_append.mp hr with hr | hr
    · simp only [List.mem_cons, List.not_mem_nil, or_false] at hr
      rcases hr with rfl | rfl | rfl | rfl | rfl | rfl | rfl | rfl | rfl | rfl | rfl
      · exact y0
      · exact y1
      · exact y2
      · exact y3
      · exact y4
      · exact y5
      · exact y6
      · exact y7
      · exact y8
      · exact y9
      · show va_T .int b E.2.2.2.1 (fun j => .int (E.2.2.2.2 j)) A s s.heap
        rw [e2, e3]; exact hsc
    · obtain ⟨i, hi, rfl⟩ := List.mem_map.mp hr
      have hi := List.mem_range.mp hi
      show va_T .byte (enAd _ _ _ _ _ (1110 + i)) (ev_sb i).length (ev_li (ev_sb i)) A s s.heap
      rw [enAd_V]; exact (hq i hi).2.2.2.2
  · obtain ⟨i, hi, rfl⟩ := List.mem_map.mp hr
    have hi := List.mem_range.mp hi
    show va_O "java/lang/String" (enAd _ _ _ _ _ (1100 + i)) A s s.heap
    rw [enAd_K hi]; exact (hq i hi).2.1
  · obtain ⟨i, hi, hr⟩ := List.mem_flatMap.mp hr
    have hi := List.mem_range.mp hi
    simp only [List.mem_cons, List.not_mem_nil, or_false] at hr
    rcases hr with rfl | rfl
    · show va_OF "java/lang/String" "coder" "B" (.int 0) (enAd _ _ _ _ _ (1100 + i)) A s s.heap
      rw [enAd_K hi]; exact (hq i hi).2.2.1
    · show va_OF "java/lang/String" "value" "[B" (.ref (enAd _ _ _ _ _ (1110 + i))) (enAd _ _ _ _ _ (1100 + i)) A s s.heap
      rw [enAd_K hi, enAd_V]; exact (hq i hi).2.2.2.1
  · simp only [ev_sr, List.mem_cons, List.not_mem_nil, or_false] at hr
    rcases hr with rfl | rfl | rfl | rfl | rfl | rfl | rfl | rfl
    · exact vk_R.of (hts _ (List.mem_of_getElem? (i := 329) (by decide +kernel))) (hq 0 (by decide)).1
    · exact vk_R.of (hts _ (List.mem_of_getElem? (i := 330) (by decide +kernel))) (hq 1 (by decide)).1
    · exact vk_R.of (hts _ (List.mem_of_getElem? (i := 331) (by decide +kernel))) (hq 2 (by decide)).1
    · exact vk_R.of (hts _ (List.mem_of_getElem? (i := 332) (by decide +kernel))) (hq 3 (by decide)).1
    · exact vk_R.of (hts _ (List.mem_of_getElem? (i := 333) (by decide +kernel))) (hq 4 (by decide)).1
    · exact vk_R.of (hts _ (List.mem_of_getElem? (i := 334) (by decide +kernel))) (hq 5 (by decide)).1
    · exact vk_R.of (hts _ (List.mem_of_getElem? (i := 335) (by decide +kernel))) (hq 6 (by decide)).1
    · exact vk_R.of (hts _ (List.mem_of_getElem? (i := 336) (by decide +kernel))) (hq 7 (by decide)).1
  · simp only [ev_nw, List.mem_cons, List.not_mem_nil, or_false] at hr
    rcases hr with rfl | rfl | rfl | rfl | rfl | rfl | rfl | rfl | rfl
    · exact va_Nw.of rfl (hts _ (List.mem_of_getElem? (i := 118) (by decide +kernel)))
    · exact va_Nw.of rfl (hts _ (List.mem_of_getElem? (i := 124) (by decide +kernel)))
    · exact va_Nw.of rfl (hts _ (List.mem_of_getElem? (i := 184) (by decide +kernel)))
    · exact va_Nw.of rfl (hts _ (List.mem_of_getElem? (i := 201) (by decide +kernel)))
    · exact va_Nw.of rfl (hts _ (List.mem_of_getElem? (i := 216) (by decide +kernel)))
    · exact va_Nw.of rfl (hts _ (List.mem_of_getElem? (i := 302) (by decide +kernel)))
    · exact va_Nw.of rfl (hts _ (List.mem_of_getElem? (i := 434) (by decide +kernel)))
    · exact va_Nw.of rfl (hts _ (List.mem_of_getElem? (i := 583) (by decide +kernel)))
    · exact va_Nw.of rfl (hts _ (List.mem_of_getElem? (i := 823) (by decide +kernel)))
theorem sbn_forget {s t : State} {L : List Loc} {k n : Nat} (h : s.sameButNew t L k n) (hL : ∀ q ∈ L, s.heap.size ≤ q.base) : s.sameButNew t [] k n :=
  ⟨h.1, h.2.1, h.2.2.1, h.2.2.2.1, h.2.2.2.2.1, fun a c hc => by
    obtain ⟨c', h1, h2, h3, h4⟩ := h.2.2.2.2.2 a c hc
    exact ⟨c', h1, h2, h3, fun i _ => h4 i (fun hm => by
      have h5 : s.heap.size ≤ a := hL _ hm
      have h6 := (Array.getElem?_eq_some_iff.mp hc).1
      omega)⟩⟩
