section EVS
variable {E : ev_E} {M : ev_M} {pc q : Nat} {L : List (Option Value)} {st : List Value} {n : Nat} {w : ev_W} {cs : Nat × Nat} {Q : Option Value → Nat → ev_W → Prop}
theorem st_iconst {i : Int} {v : Int32} (d : decode (ev_cc M) pc = .ok (.iconst i, 1)) (hq : pc + 1 = q) (hv : Int32.ofInt i = v) (k : Ev E M q L (.int v :: st) n w cs Q) : Ev E M pc L (st) n w cs Q := by
  subst hq
  intro p e s m args below meth c A ad0 n0 ad H locs ls F Dy hl hk hr h1 h2
  exact lv_iconst F.1 F.2.1 d hv (k p e s m args below meth c A ad0 n0 ad H locs ls F Dy hl (ev_wk_cons trivial hk) hr h1 h2)
theorem st_bipush {i : Int} {v : Int32} (d : decode (ev_cc M) pc = .ok (.bipush i, 2)) (hq : pc + 2 = q) (hv : (Int8.ofInt i).toInt32 = v) (k : Ev E M q L (.int v :: st) n w cs Q) : Ev E M pc L (st) n w cs Q := by
  subst hq
  intro p e s m args below meth c A ad0 n0 ad H locs ls F Dy hl hk hr h1 h2
  exact lv_bipush F.1 F.2.1 d hv (k p e s m args below meth c A ad0 n0 ad H locs ls F Dy hl (ev_wk_cons trivial hk) hr h1 h2)
theorem st_sipush {i : Int} {v : Int32} (d : decode (ev_cc M) pc = .ok (.sipush i, 3)) (hq : pc + 3 = q) (hv : (Int16.ofInt i).toInt32 = v) (k : Ev E M q L (.int v :: st) n w cs Q) : Ev E M pc L (st) n w cs Q := by
  subst hq
  intro p e s m args below meth c A ad0 n0 ad H locs ls F Dy hl hk hr h1 h2
  exact lv_sipush F.1 F.2.1 d hv (k p e s m args below meth c A ad0 n0 ad H locs ls F Dy hl (ev_wk_cons trivial hk) hr h1 h2)
theorem st_lconst {i : Fin 2} {v : Int64} (d : decode (ev_cc M) pc = .ok (.lconst i, 1)) (hq : pc + 1 = q) (hv : Int64.ofNat (i : Nat) = v) (k : Ev E M q L (.long v :: st) n w cs Q) : Ev E M pc L (st) n w cs Q := by
  subst hq
  intro p e s m args below meth c A ad0 n0 ad H locs ls F Dy hl hk hr h1 h2
  exact lv_lconst F.1 F.2.1 d hv (k p e s m args below meth c A ad0 n0 ad H locs ls F Dy hl (ev_wk_cons trivial hk) hr h1 h2)
theorem st_ldc {i : Nat} {v : Int32} (d : decode (ev_cc M) pc = .ok (.ldc i, 2)) (hq : pc + 2 = q) (hc : Cond.constant (ev_y M).cls i v ∈ ev_tbl) (k : Ev E M q L (.int v :: st) n w cs Q) : Ev E M pc L (st) n w cs Q := by
  subst hq
  intro p e s m args below meth c A ad0 n0 ad H locs ls F Dy hl hk hr h1 h2
  exact lv_ldc F.1 F.2.1 F.2.2.2.2.1 (F.2.2.2.2.2.1 _ (List.mem_cons_of_mem _ hc)) d (k p e s m args below meth c A ad0 n0 ad H locs ls F Dy hl (ev_wk_cons trivial hk) hr h1 h2)
theorem st_ldcw {i : Nat} {v : Int32} (d : decode (ev_cc M) pc = .ok (.ldc_w i, 3)) (hq : pc + 3 = q) (hc : Cond.constant (ev_y M).cls i v ∈ ev_tbl) (k : Ev E M q L (.int v :: st) n w cs Q) : Ev E M pc L (st) n w cs Q := by
  subst hq
  intro p e s m args below meth c A ad0 n0 ad H locs ls F Dy hl hk hr h1 h2
  exact lv_ldcw F.1 F.2.1 F.2.2.2.2.1 (F.2.2.2.2.2.1 _ (List.mem_cons_of_mem _ hc)) d (k p e s m args below meth c A ad0 n0 ad H locs ls F Dy hl (ev_wk_cons trivial hk) hr h1 h2)
theorem st_ldc2 {i : Nat} {v : Int64} (d : decode (ev_cc M) pc = .ok (.ldc2_w i, 3)) (hq : pc + 3 = q) (hc : Cond.constantLong (ev_y M).cls i v ∈ ev_tbl) (k : Ev E M q L (.long v :: st) n w cs Q) : Ev E M pc L (st) n w cs Q := by
  subst hq
  intro p e s m args below meth c A ad0 n0 ad H locs ls F Dy hl hk hr h1 h2
  exact lv_ldc2 F.1 F.2.1 F.2.2.2.2.1 (F.2.2.2.2.2.1 _ (List.mem_cons_of_mem _ hc)) d (k p e s m args below meth c A ad0 n0 ad H locs ls F Dy hl (ev_wk_cons trivial hk) hr h1 h2)
theorem st_iload_n {i : Fin 4} {j : Nat} {x : Int32} (d : decode (ev_cc M) pc = .ok (.iload_n i, 1)) (hq : pc + 1 = q) (hj : (i : Nat) = j) (hv : ev_lk L j = some (.int x)) (k : Ev E M q L (.int x :: st) n w cs Q) : Ev E M pc L (st) n w cs Q := by
  subst hq
  intro p e s m args below meth c A ad0 n0 ad H locs ls F Dy hl hk hr h1 h2
  exact lv_iload_n F.1 F.2.1 d hj (hr.2.2 _ _ hv) (k p e s m args below meth c A ad0 n0 ad H locs ls F Dy hl (ev_wk_cons (hl _ _ hv) hk) hr h1 h2)
theorem st_iload {i : Nat} {x : Int32} (d : decode (ev_cc M) pc = .ok (.iload i, 2)) (hq : pc + 2 = q) (hv : ev_lk L i = some (.int x)) (k : Ev E M q L (.int x :: st) n w cs Q) : Ev E M pc L (st) n w cs Q := by
  subst hq
  intro p e s m args below meth c A ad0 n0 ad H locs ls F Dy hl hk hr h1 h2
  exact lv_iload F.1 F.2.1 d (hr.2.2 _ _ hv) (k p e s m args below meth c A ad0 n0 ad H locs ls F Dy hl (ev_wk_cons (hl _ _ hv) hk) hr h1 h2)
theorem st_lload_n {i : Fin 4} {j : Nat} {x : Int64} (d : decode (ev_cc M) pc = .ok (.lload_n i, 1)) (hq : pc + 1 = q) (hj : (i : Nat) = j) (hv : ev_lk L j = some (.long x)) (k : Ev E M q L (.long x :: st) n w cs Q) : Ev E M pc L (st) n w cs Q := by
  subst hq
  intro p e s m args below meth c A ad0 n0 ad H locs ls F Dy hl hk hr h1 h2
  exact lv_lload_n F.1 F.2.1 d hj (hr.2.2 _ _ hv) (k p e s m args below meth c A ad0 n0 ad H locs ls F Dy hl (ev_wk_cons (hl _ _ hv) hk) hr h1 h2)
theorem st_lload {i : Nat} {x : Int64} (d : decode (ev_cc M) pc = .ok (.lload i, 2)) (hq : pc + 2 = q) (hv : ev_lk L i = some (.long x)) (k : Ev E M q L (.long x :: st) n w cs Q) : Ev E M pc L (st) n w cs Q := by
  subst hq
  intro p e s m args below meth c A ad0 n0 ad H locs ls F Dy hl hk hr h1 h2
  exact lv_lload F.1 F.2.1 d (hr.2.2 _ _ hv) (k p e s m args below meth c A ad0 n0 ad H locs ls F Dy hl (ev_wk_cons (hl _ _ hv) hk) hr h1 h2)
theorem st_aload_n {i : Fin 4} {j : Nat} {x : Nat} (d : decode (ev_cc M) pc = .ok (.aload_n i, 1)) (hq : pc + 1 = q) (hj : (i : Nat) = j) (hv : ev_lk L j = some (.ref x)) (k : Ev E M q L (.ref x :: st) n w cs Q) : Ev E M pc L (st) n w cs Q := by
  subst hq
  intro p e s m args below meth c A ad0 n0 ad H locs ls F Dy hl hk hr h1 h2
  exact lv_aload_n F.1 F.2.1 d hj (hr.2.2 _ _ hv) (k p e s m args below meth c A ad0 n0 ad H locs ls F Dy hl (ev_wk_cons (hl _ _ hv) hk) hr h1 h2)
theorem st_aload {i : Nat} {x : Nat} (d : decode (ev_cc M) pc = .ok (.aload i, 2)) (hq : pc + 2 = q) (hv : ev_lk L i = some (.ref x)) (k : Ev E M q L (.ref x :: st) n w cs Q) : Ev E M pc L (st) n w cs Q := by
  subst hq
  intro p e s m args below meth c A ad0 n0 ad H locs ls F Dy hl hk hr h1 h2
  exact lv_aload F.1 F.2.1 d (hr.2.2 _ _ hv) (k p e s m args below meth c A ad0 n0 ad H locs ls F Dy hl (ev_wk_cons (hl _ _ hv) hk) hr h1 h2)
theorem st_iadd {x y : Int32} (d : decode (ev_cc M) pc = .ok (.iadd, 1)) (hq : pc + 1 = q) (k : Ev E M q L (.int (x + y) :: st) n w cs Q) : Ev E M pc L (.int y :: .int x :: st) n w cs Q := by
  subst hq
  intro p e s m args below meth c A ad0 n0 ad H locs ls F Dy hl hk hr h1 h2
  exact lv_iadd F.1 F.2.1 d (k p e s m args below meth c A ad0 n0 ad H locs ls F Dy hl (ev_wk_cons trivial (ev_wk_tl (ev_wk_tl hk))) hr h1 h2)
theorem st_isub {x y : Int32} (d : decode (ev_cc M) pc = .ok (.isub, 1)) (hq : pc + 1 = q) (k : Ev E M q L (.int (x - y) :: st) n w cs Q) : Ev E M pc L (.int y :: .int x :: st) n w cs Q := by
  subst hq
  intro p e s m args below meth c A ad0 n0 ad H locs ls F Dy hl hk hr h1 h2
  exact lv_isub F.1 F.2.1 d (k p e s m args below meth c A ad0 n0 ad H locs ls F Dy hl (ev_wk_cons trivial (ev_wk_tl (ev_wk_tl hk))) hr h1 h2)
theorem st_imul {x y : Int32} (d : decode (ev_cc M) pc = .ok (.imul, 1)) (hq : pc + 1 = q) (k : Ev E M q L (.int (x * y) :: st) n w cs Q) : Ev E M pc L (.int y :: .int x :: st) n w cs Q := by
  subst hq
  intro p e s m args below meth c A ad0 n0 ad H locs ls F Dy hl hk hr h1 h2
  exact lv_imul F.1 F.2.1 d (k p e s m args below meth c A ad0 n0 ad H locs ls F Dy hl (ev_wk_cons trivial (ev_wk_tl (ev_wk_tl hk))) hr h1 h2)
theorem st_iand {x y : Int32} (d : decode (ev_cc M) pc = .ok (.iand, 1)) (hq : pc + 1 = q) (k : Ev E M q L (.int (x &&& y) :: st) n w cs Q) : Ev E M pc L (.int y :: .int x :: st) n w cs Q := by
  subst hq
  intro p e s m args below meth c A ad0 n0 ad H locs ls F Dy hl hk hr h1 h2
  exact lv_iand F.1 F.2.1 d (k p e s m args below meth c A ad0 n0 ad H locs ls F Dy hl (ev_wk_cons trivial (ev_wk_tl (ev_wk_tl hk))) hr h1 h2)
theorem st_ior {x y : Int32} (d : decode (ev_cc M) pc = .ok (.ior, 1)) (hq : pc + 1 = q) (k : Ev E M q L (.int (x ||| y) :: st) n w cs Q) : Ev E M pc L (.int y :: .int x :: st) n w cs Q := by
  subst hq
  intro p e s m args below meth c A ad0 n0 ad H locs ls F Dy hl hk hr h1 h2
  exact lv_ior F.1 F.2.1 d (k p e s m args below meth c A ad0 n0 ad H locs ls F Dy hl (ev_wk_cons trivial (ev_wk_tl (ev_wk_tl hk))) hr h1 h2)
theorem st_ixor {x y : Int32} (d : decode (ev_cc M) pc = .ok (.ixor, 1)) (hq : pc + 1 = q) (k : Ev E M q L (.int (x ^^^ y) :: st) n w cs Q) : Ev E M pc L (.int y :: .int x :: st) n w cs Q := by
  subst hq
  intro p e s m args below meth c A ad0 n0 ad H locs ls F Dy hl hk hr h1 h2
  exact lv_ixor F.1 F.2.1 d (k p e s m args below meth c A ad0 n0 ad H locs ls F Dy hl (ev_wk_cons trivial (ev_wk_tl (ev_wk_tl hk))) hr h1 h2)
theorem st_ishl {x y : Int32} (d : decode (ev_cc M) pc = .ok (.ishl, 1)) (hq : pc + 1 = q) (k : Ev E M q L (.int (x <<< (y &&& 31)) :: st) n w cs Q) : Ev E M pc L (.int y :: .int x :: st) n w cs Q := by
  subst hq
  intro p e s m args below meth c A ad0 n0 ad H locs ls F Dy hl hk hr h1 h2
  exact lv_ishl F.1 F.2.1 d (k p e s m args below meth c A ad0 n0 ad H locs ls F Dy hl (ev_wk_cons trivial (ev_wk_tl (ev_wk_tl hk))) hr h1 h2)
theorem st_ishr {x y : Int32} (d : decode (ev_cc M) pc = .ok (.ishr, 1)) (hq : pc + 1 = q) (k : Ev E M q L (.int (x >>> (y &&& 31)) :: st) n w cs Q) : Ev E M pc L (.int y :: .int x :: st) n w cs Q := by
  subst hq
  intro p e s m args below meth c A ad0 n0 ad H locs ls F Dy hl hk hr h1 h2
  exact lv_ishr F.1 F.2.1 d (k p e s m args below meth c A ad0 n0 ad H locs ls F Dy hl (ev_wk_cons trivial (ev_wk_tl (ev_wk_tl hk))) hr h1 h2)
theorem st_iushr {x y : Int32} (d : decode (ev_cc M) pc = .ok (.iushr, 1)) (hq : pc + 1 = q) (k : Ev E M q L (.int ((x.toUInt32 >>> (y.toUInt32 &&& Int32.toUInt32 31)).toInt32) :: st) n w cs Q) : Ev E M pc L (.int y :: .int x :: st) n w cs Q := by
  subst hq
  intro p e s m args below meth c A ad0 n0 ad H locs ls F Dy hl hk hr h1 h2
  exact lv_iushr F.1 F.2.1 d rfl (k p e s m args below meth c A ad0 n0 ad H locs ls F Dy hl (ev_wk_cons trivial (ev_wk_tl (ev_wk_tl hk))) hr h1 h2)
theorem st_idiv {x y : Int32} (d : decode (ev_cc M) pc = .ok (.idiv, 1)) (hq : pc + 1 = q) (hne : ¬ y = 0) (k : Ev E M q L (.int (x / y) :: st) n w cs Q) : Ev E M pc L (.int y :: .int x :: st) n w cs Q := by
  subst hq
  intro p e s m args below meth c A ad0 n0 ad H locs ls F Dy hl hk hr h1 h2
  exact lv_idiv F.1 F.2.1 d hne (k p e s m args below meth c A ad0 n0 ad H locs ls F Dy hl (ev_wk_cons trivial (ev_wk_tl (ev_wk_tl hk))) hr h1 h2)
theorem st_irem {x y : Int32} (d : decode (ev_cc M) pc = .ok (.irem, 1)) (hq : pc + 1 = q) (hne : ¬ y = 0) (k : Ev E M q L (.int (x - x / y * y) :: st) n w cs Q) : Ev E M pc L (.int y :: .int x :: st) n w cs Q := by
  subst hq
  intro p e s m args below meth c A ad0 n0 ad H locs ls F Dy hl hk hr h1 h2
  exact lv_irem F.1 F.2.1 d hne (k p e s m args below meth c A ad0 n0 ad H locs ls F Dy hl (ev_wk_cons trivial (ev_wk_tl (ev_wk_tl hk))) hr h1 h2)
theorem st_ladd {x y : Int64} (d : decode (ev_cc M) pc = .ok (.ladd, 1)) (hq : pc + 1 = q) (k : Ev E M q L (.long (x + y) :: st) n w cs Q) : Ev E M pc L (.long y :: .long x :: st) n w cs Q := by
  subst hq
  intro p e s m args below meth c A ad0 n0 ad H locs ls F Dy hl hk hr h1 h2
  exact lv_ladd F.1 F.2.1 d (k p e s m args below meth c A ad0 n0 ad H locs ls F Dy hl (ev_wk_cons trivial (ev_wk_tl (ev_wk_tl hk))) hr h1 h2)
theorem st_lsub {x y : Int64} (d : decode (ev_cc M) pc = .ok (.lsub, 1)) (hq : pc + 1 = q) (k : Ev E M q L (.long (x - y) :: st) n w cs Q) : Ev E M pc L (.long y :: .long x :: st) n w cs Q := by
  subst hq
  intro p e s m args below meth c A ad0 n0 ad H locs ls F Dy hl hk hr h1 h2
  exact lv_lsub F.1 F.2.1 d (k p e s m args below meth c A ad0 n0 ad H locs ls F Dy hl (ev_wk_cons trivial (ev_wk_tl (ev_wk_tl hk))) hr h1 h2)
theorem st_lmul {x y : Int64} (d : decode (ev_cc M) pc = .ok (.lmul, 1)) (hq : pc + 1 = q) (k : Ev E M q L (.long (x * y) :: st) n w cs Q) : Ev E M pc L (.long y :: .long x :: st) n w cs Q := by
  subst hq
  intro p e s m args below meth c A ad0 n0 ad H locs ls F Dy hl hk hr h1 h2
  exact lv_lmul F.1 F.2.1 d (k p e s m args below meth c A ad0 n0 ad H locs ls F Dy hl (ev_wk_cons trivial (ev_wk_tl (ev_wk_tl hk))) hr h1 h2)
theorem st_ldiv {x y : Int64} (d : decode (ev_cc M) pc = .ok (.ldiv, 1)) (hq : pc + 1 = q) (hne : ¬ y = 0) (k : Ev E M q L (.long (x / y) :: st) n w cs Q) : Ev E M pc L (.long y :: .long x :: st) n w cs Q := by
  subst hq
  intro p e s m args below meth c A ad0 n0 ad H locs ls F Dy hl hk hr h1 h2
  exact lv_ldiv F.1 F.2.1 d hne (k p e s m args below meth c A ad0 n0 ad H locs ls F Dy hl (ev_wk_cons trivial (ev_wk_tl (ev_wk_tl hk))) hr h1 h2)
theorem st_lrem {x y : Int64} (d : decode (ev_cc M) pc = .ok (.lrem, 1)) (hq : pc + 1 = q) (hne : ¬ y = 0) (k : Ev E M q L (.long (x - x / y * y) :: st) n w cs Q) : Ev E M pc L (.long y :: .long x :: st) n w cs Q := by
  subst hq
  intro p e s m args below meth c A ad0 n0 ad H locs ls F Dy hl hk hr h1 h2
  exact lv_lrem F.1 F.2.1 d hne (k p e s m args below meth c A ad0 n0 ad H locs ls F Dy hl (ev_wk_cons trivial (ev_wk_tl (ev_wk_tl hk))) hr h1 h2)
theorem st_lcmp {x y : Int64} (d : decode (ev_cc M) pc = .ok (.lcmp, 1)) (hq : pc + 1 = q) (k : Ev E M q L (.int (lg_cmp x y) :: st) n w cs Q) : Ev E M pc L (.long y :: .long x :: st) n w cs Q := by
  subst hq
  intro p e s m args below meth c A ad0 n0 ad H locs ls F Dy hl hk hr h1 h2
  exact W.lcmp F.1 F.2.1 d (k p e s m args below meth c A ad0 n0 ad H locs ls F Dy hl (ev_wk_cons trivial (ev_wk_tl (ev_wk_tl hk))) hr h1 h2)
theorem st_i2l {x : Int32} (d : decode (ev_cc M) pc = .ok (.i2l, 1)) (hq : pc + 1 = q) (k : Ev E M q L (.long x.toInt64 :: st) n w cs Q) : Ev E M pc L (.int x :: st) n w cs Q := by
  subst hq
  intro p e s m args below meth c A ad0 n0 ad H locs ls F Dy hl hk hr h1 h2
  exact lv_i2l F.1 F.2.1 d rfl (k p e s m args below meth c A ad0 n0 ad H locs ls F Dy hl (ev_wk_cons trivial (ev_wk_tl hk)) hr h1 h2)
theorem st_i2b {x : Int32} (d : decode (ev_cc M) pc = .ok (.i2b, 1)) (hq : pc + 1 = q) (k : Ev E M q L (.int x.toInt8.toInt32 :: st) n w cs Q) : Ev E M pc L (.int x :: st) n w cs Q := by
  subst hq
  intro p e s m args below meth c A ad0 n0 ad H locs ls F Dy hl hk hr h1 h2
  exact lv_i2b F.1 F.2.1 d rfl (k p e s m args below meth c A ad0 n0 ad H locs ls F Dy hl (ev_wk_cons trivial (ev_wk_tl hk)) hr h1 h2)
theorem st_i2s {x : Int32} (d : decode (ev_cc M) pc = .ok (.i2s, 1)) (hq : pc + 1 = q) (k : Ev E M q L (.int x.toInt16.toInt32 :: st) n w cs Q) : Ev E M pc L (.int x :: st) n w cs Q := by
  subst hq
  intro p e s m args below meth c A ad0 n0 ad H locs ls F Dy hl hk hr h1 h2
  exact lv_i2s F.1 F.2.1 d rfl (k p e s m args below meth c A ad0 n0 ad H locs ls F Dy hl (ev_wk_cons trivial (ev_wk_tl hk)) hr h1 h2)
theorem st_i2c {x : Int32} (d : decode (ev_cc M) pc = .ok (.i2c, 1)) (hq : pc + 1 = q) (k : Ev E M q L (.int ((x.toUInt32 % 65536).toInt32) :: st) n w cs Q) : Ev E M pc L (.int x :: st) n w cs Q := by
  subst hq
  intro p e s m args below meth c A ad0 n0 ad H locs ls F Dy hl hk hr h1 h2
  exact lv_i2c F.1 F.2.1 d rfl (k p e s m args below meth c A ad0 n0 ad H locs ls F Dy hl (ev_wk_cons trivial (ev_wk_tl hk)) hr h1 h2)
theorem st_dup {v : Value} (d : decode (ev_cc M) pc = .ok (.dup, 1)) (hq : pc + 1 = q) (hc : v.category = 1) (k : Ev E M q L (v :: v :: st) n w cs Q) : Ev E M pc L (v :: st) n w cs Q := by
  subst hq
  intro p e s m args below meth c A ad0 n0 ad H locs ls F Dy hl hk hr h1 h2
  exact lv_dup F.1 F.2.1 d ((ev_cv_cat ad v).trans hc) (k p e s m args below meth c A ad0 n0 ad H locs ls F Dy hl (ev_wk_cons (ev_wk_hd hk) hk) hr h1 h2)
theorem st_pop {v : Value} (d : decode (ev_cc M) pc = .ok (.pop, 1)) (hq : pc + 1 = q) (hc : v.category = 1) (k : Ev E M q L (st) n w cs Q) : Ev E M pc L (v :: st) n w cs Q := by
  subst hq
  intro p e s m args below meth c A ad0 n0 ad H locs ls F Dy hl hk hr h1 h2
  exact lv_pop F.1 F.2.1 d ((ev_cv_cat ad v).trans hc) (k p e s m args below meth c A ad0 n0 ad H locs ls F Dy hl (ev_wk_tl hk) hr h1 h2)
theorem st_dup2 {v u : Value} (d : decode (ev_cc M) pc = .ok (.dup2, 1)) (hq : pc + 1 = q) (hc : v.category = 1) (hd : u.category = 1) (k : Ev E M q L (v :: u :: v :: u :: st) n w cs Q) : Ev E M pc L (v :: u :: st) n w cs Q := by
  subst hq
  intro p e s m args below meth c A ad0 n0 ad H locs ls F Dy hl hk hr h1 h2
  exact lv_dup2_11 F.1 F.2.1 d ((ev_cv_cat ad v).trans hc) ((ev_cv_cat ad u).trans hd) (k p e s m args below meth c A ad0 n0 ad H locs ls F Dy hl (ev_wk_cons (ev_wk_hd hk) (ev_wk_cons (ev_wk_hd (ev_wk_tl hk)) hk)) hr h1 h2)
theorem st_if_eq {x : Int32} {off : Int} {tgt : Nat} (d : decode (ev_cc M) pc = .ok (.ifCond .eq off, 3)) (ht : (pc : Int) + off = (tgt : Int)) (hq : pc + 3 = q) (kt : x = 0 → Ev E M tgt L st n w cs Q) (kf : ¬ x = 0 → Ev E M q L st n w cs Q) : Ev E M pc L (.int x :: st) n w cs Q := by
  subst hq
  intro p e s m args below meth c A ad0 n0 ad H locs ls F Dy hl hk hr h1 h2
  exact lv_if_eq F.1 F.2.1 d ht (fun z => kt z p e s m args below meth c A ad0 n0 ad H locs ls F Dy hl (ev_wk_tl hk) hr h1 h2) (fun z => kf z p e s m args below meth c A ad0 n0 ad H locs ls F Dy hl (ev_wk_tl hk) hr h1 h2)
theorem st_if_ne {x : Int32} {off : Int} {tgt : Nat} (d : decode (ev_cc M) pc = .ok (.ifCond .ne off, 3)) (ht : (pc : Int) + off = (tgt : Int)) (hq : pc + 3 = q) (kt : ¬ x = 0 → Ev E M tgt L st n w cs Q) (kf : x = 0 → Ev E M q L st n w cs Q) : Ev E M pc L (.int x :: st) n w cs Q := by
  subst hq
  intro p e s m args below meth c A ad0 n0 ad H locs ls F Dy hl hk hr h1 h2
  exact lv_if_ne F.1 F.2.1 d ht (fun z => kt z p e s m args below meth c A ad0 n0 ad H locs ls F Dy hl (ev_wk_tl hk) hr h1 h2) (fun z => kf z p e s m args below meth c A ad0 n0 ad H locs ls F Dy hl (ev_wk_tl hk) hr h1 h2)
theorem st_if_lt {x : Int32} {off : Int} {tgt : Nat} (d : decode (ev_cc M) pc = .ok (.ifCond .lt off, 3)) (ht : (pc : Int) + off = (tgt : Int)) (hq : pc + 3 = q) (kt : x < 0 → Ev E M tgt L st n w cs Q) (kf : ¬ x < 0 → Ev E M q L st n w cs Q) : Ev E M pc L (.int x :: st) n w cs Q := by
  subst hq
  intro p e s m args below meth c A ad0 n0 ad H locs ls F Dy hl hk hr h1 h2
  exact lv_if_lt F.1 F.2.1 d ht (fun z => kt z p e s m args below meth c A ad0 n0 ad H locs ls F Dy hl (ev_wk_tl hk) hr h1 h2) (fun z => kf z p e s m args below meth c A ad0 n0 ad H locs ls F Dy hl (ev_wk_tl hk) hr h1 h2)
theorem st_if_ge {x : Int32} {off : Int} {tgt : Nat} (d : decode (ev_cc M) pc = .ok (.ifCond .ge off, 3)) (ht : (pc : Int) + off = (tgt : Int)) (hq : pc + 3 = q) (kt : 0 ≤ x → Ev E M tgt L st n w cs Q) (kf : ¬ 0 ≤ x → Ev E M q L st n w cs Q) : Ev E M pc L (.int x :: st) n w cs Q := by
  subst hq
  intro p e s m args below meth c A ad0 n0 ad H locs ls F Dy hl hk hr h1 h2
  exact lv_if_ge F.1 F.2.1 d ht (fun z => kt z p e s m args below meth c A ad0 n0 ad H locs ls F Dy hl (ev_wk_tl hk) hr h1 h2) (fun z => kf z p e s m args below meth c A ad0 n0 ad H locs ls F Dy hl (ev_wk_tl hk) hr h1 h2)
theorem st_if_gt {x : Int32} {off : Int} {tgt : Nat} (d : decode (ev_cc M) pc = .ok (.ifCond .gt off, 3)) (ht : (pc : Int) + off = (tgt : Int)) (hq : pc + 3 = q) (kt : 0 < x → Ev E M tgt L st n w cs Q) (kf : ¬ 0 < x → Ev E M q L st n w cs Q) : Ev E M pc L (.int x :: st) n w cs Q := by
  subst hq
  intro p e s m args below meth c A ad0 n0 ad H locs ls F Dy hl hk hr h1 h2
  exact lv_if_gt F.1 F.2.1 d ht (fun z => kt z p e s m args below meth c A ad0 n0 ad H locs ls F Dy hl (ev_wk_tl hk) hr h1 h2) (fun z => kf z p e s m args below meth c A ad0 n0 ad H locs ls F Dy hl (ev_wk_tl hk) hr h1 h2)
theorem st_if_le {x : Int32} {off : Int} {tgt : Nat} (d : decode (ev_cc M) pc = .ok (.ifCond .le off, 3)) (ht : (pc : Int) + off = (tgt : Int)) (hq : pc + 3 = q) (kt : x ≤ 0 → Ev E M tgt L st n w cs Q) (kf : ¬ x ≤ 0 → Ev E M q L st n w cs Q) : Ev E M pc L (.int x :: st) n w cs Q := by
  subst hq
  intro p e s m args below meth c A ad0 n0 ad H locs ls F Dy hl hk hr h1 h2
  exact lv_if_le F.1 F.2.1 d ht (fun z => kt z p e s m args below meth c A ad0 n0 ad H locs ls F Dy hl (ev_wk_tl hk) hr h1 h2) (fun z => kf z p e s m args below meth c A ad0 n0 ad H locs ls F Dy hl (ev_wk_tl hk) hr h1 h2)
theorem st_icmp_eq {x y : Int32} {off : Int} {tgt : Nat} (d : decode (ev_cc M) pc = .ok (.if_icmp .eq off, 3)) (ht : (pc : Int) + off = (tgt : Int)) (hq : pc + 3 = q) (kt : x = y → Ev E M tgt L st n w cs Q) (kf : ¬ x = y → Ev E M q L st n w cs Q) : Ev E M pc L (.int y :: .int x :: st) n w cs Q := by
  subst hq
  intro p e s m args below meth c A ad0 n0 ad H locs ls F Dy hl hk hr h1 h2
  exact lv_icmp_eq F.1 F.2.1 d ht (fun z => kt z p e s m args below meth c A ad0 n0 ad H locs ls F Dy hl (ev_wk_tl (ev_wk_tl hk)) hr h1 h2) (fun z => kf z p e s m args below meth c A ad0 n0 ad H locs ls F Dy hl (ev_wk_tl (ev_wk_tl hk)) hr h1 h2)
theorem st_icmp_ne {x y : Int32} {off : Int} {tgt : Nat} (d : decode (ev_cc M) pc = .ok (.if_icmp .ne off, 3)) (ht : (pc : Int) + off = (tgt : Int)) (hq : pc + 3 = q) (kt : ¬ x = y → Ev E M tgt L st n w cs Q) (kf : x = y → Ev E M q L st n w cs Q) : Ev E M pc L (.int y :: .int x :: st) n w cs Q := by
  subst hq
  intro p e s m args below meth c A ad0 n0 ad H locs ls F Dy hl hk hr h1 h2
  exact lv_icmp_ne F.1 F.2.1 d ht (fun z => kt z p e s m args below meth c A ad0 n0 ad H locs ls F Dy hl (ev_wk_tl (ev_wk_tl hk)) hr h1 h2) (fun z => kf z p e s m args below meth c A ad0 n0 ad H locs ls F Dy hl (ev_wk_tl (ev_wk_tl hk)) hr h1 h2)
theorem st_icmp_lt {x y : Int32} {off : Int} {tgt : Nat} (d : decode (ev_cc M) pc = .ok (.if_icmp .lt off, 3)) (ht : (pc : Int) + off = (tgt : Int)) (hq : pc + 3 = q) (kt : x < y → Ev E M tgt L st n w cs Q) (kf : ¬ x < y → Ev E M q L st n w cs Q) : Ev E M pc L (.int y :: .int x :: st) n w cs Q := by
  subst hq
  intro p e s m args below meth c A ad0 n0 ad H locs ls F Dy hl hk hr h1 h2
  exact lv_icmp_lt F.1 F.2.1 d ht (fun z => kt z p e s m args below meth c A ad0 n0 ad H locs ls F Dy hl (ev_wk_tl (ev_wk_tl hk)) hr h1 h2) (fun z => kf z p e s m args below meth c A ad0 n0 ad H locs ls F Dy hl (ev_wk_tl (ev_wk_tl hk)) hr h1 h2)
theorem st_icmp_ge {x y : Int32} {off : Int} {tgt : Nat} (d : decode (ev_cc M) pc = .ok (.if_icmp .ge off, 3)) (ht : (pc : Int) + off = (tgt : Int)) (hq : pc + 3 = q) (kt : y ≤ x → Ev E M tgt L st n w cs Q) (kf : ¬ y ≤ x → Ev E M q L st n w cs Q) : Ev E M pc L (.int y :: .int x :: st) n w cs Q := by
  subst hq
  intro p e s m args below meth c A ad0 n0 ad H locs ls F Dy hl hk hr h1 h2
  exact lv_icmp_ge F.1 F.2.1 d ht (fun z => kt z p e s m args below meth c A ad0 n0 ad H locs ls F Dy hl (ev_wk_tl (ev_wk_tl hk)) hr h1 h2) (fun z => kf z p e s m args below meth c A ad0 n0 ad H locs ls F Dy hl (ev_wk_tl (ev_wk_tl hk)) hr h1 h2)
theorem st_icmp_gt {x y : Int32} {off : Int} {tgt : Nat} (d : decode (ev_cc M) pc = .ok (.if_icmp .gt off, 3)) (ht : (pc : Int) + off = (tgt : Int)) (hq : pc + 3 = q) (kt : y < x → Ev E M tgt L st n w cs Q) (kf : ¬ y < x → Ev E M q L st n w cs Q) : Ev E M pc L (.int y :: .int x :: st) n w cs Q := by
  subst hq
  intro p e s m args below meth c A ad0 n0 ad H locs ls F Dy hl hk hr h1 h2
  exact lv_icmp_gt F.1 F.2.1 d ht (fun z => kt z p e s m args below meth c A ad0 n0 ad H locs ls F Dy hl (ev_wk_tl (ev_wk_tl hk)) hr h1 h2) (fun z => kf z p e s m args below meth c A ad0 n0 ad H locs ls F Dy hl (ev_wk_tl (ev_wk_tl hk)) hr h1 h2)
theorem st_icmp_le {x y : Int32} {off : Int} {tgt : Nat} (d : decode (ev_cc M) pc = .ok (.if_icmp .le off, 3)) (ht : (pc : Int) + off = (tgt : Int)) (hq : pc + 3 = q) (kt : x ≤ y → Ev E M tgt L st n w cs Q) (kf : ¬ x ≤ y → Ev E M q L st n w cs Q) : Ev E M pc L (.int y :: .int x :: st) n w cs Q := by
  subst hq
  intro p e s m args below meth c A ad0 n0 ad H locs ls F Dy hl hk hr h1 h2
  exact lv_icmp_le F.1 F.2.1 d ht (fun z => kt z p e s m args below meth c A ad0 n0 ad H locs ls F Dy hl (ev_wk_tl (ev_wk_tl hk)) hr h1 h2) (fun z => kf z p e s m args below meth c A ad0 n0 ad H locs ls F Dy hl (ev_wk_tl (ev_wk_tl hk)) hr h1 h2)
theorem st_goto {off : Int} (d : decode (ev_cc M) pc = .ok (.goto off, 3)) (ht : (pc : Int) + off = (q : Int)) (k : Ev E M q L st n w cs Q) : Ev E M pc L st n w cs Q := by
  intro p e s m args below meth c A ad0 n0 ad H locs ls F Dy hl hk hr h1 h2
  exact lv_goto F.1 F.2.1 d ht (k p e s m args below meth c A ad0 n0 ad H locs ls F Dy hl hk hr h1 h2)
theorem st_tableIn {x : Int32} {dflt lo hi : Int} {offs : Array Int} {len tgt : Nat} {off : Int} (d : decode (ev_cc M) pc = .ok (.tableswitch dflt lo hi offs, len)) (z1 : ¬ x.toInt < lo) (z2 : ¬ hi < x.toInt) (ho : offs[(x.toInt - lo).toNat]? = some off) (ht : (pc : Int) + off = (tgt : Int)) (k : Ev E M tgt L st n w cs Q) : Ev E M pc L (.int x :: st) n w cs Q := by
  intro p e s m args below meth c A ad0 n0 ad H locs ls F Dy hl hk hr h1 h2
  exact lv_tableIn F.1 F.2.1 d z1 z2 ho ht (k p e s m args below meth c A ad0 n0 ad H locs ls F Dy hl (ev_wk_tl hk) hr h1 h2)
theorem st_tableOut {x : Int32} {dflt lo hi : Int} {offs : Array Int} {len tgt : Nat} (d : decode (ev_cc M) pc = .ok (.tableswitch dflt lo hi offs, len)) (z : x.toInt < lo ∨ hi < x.toInt) (ht : (pc : Int) + dflt = (tgt : Int)) (k : Ev E M tgt L st n w cs Q) : Ev E M pc L (.int x :: st) n w cs Q := by
  intro p e s m args below meth c A ad0 n0 ad H locs ls F Dy hl hk hr h1 h2
  exact lv_tableOut F.1 F.2.1 d z ht (k p e s m args below meth c A ad0 n0 ad H locs ls F Dy hl (ev_wk_tl hk) hr h1 h2)
theorem st_lookup {x : Int32} {dflt : Int} {ps : Array (Int × Int)} {len tgt : Nat} {off : Int} (d : decode (ev_cc M) pc = .ok (.lookupswitch dflt ps, len)) (hp : (ps.toList.zip (ps.toList.drop 1)).all (fun (a, next) => a.1 < next.1) = true) (ho : Op.lookupswitch.offset ps.toList dflt x.toInt = off) (ht : (pc : Int) + off = (tgt : Int)) (k : Ev E M tgt L st n w cs Q) : Ev E M pc L (.int x :: st) n w cs Q := by
  intro p e s m args below meth c A ad0 n0 ad H locs ls F Dy hl hk hr h1 h2
  exact lv_lookup F.1 F.2.1 d hp ho ht (k p e s m args below meth c A ad0 n0 ad H locs ls F Dy hl (ev_wk_tl hk) hr h1 h2)
end EVS
def ev_pr (ad : Nat → Nat) : Nat → List (Option Value) → List (Nat × Value)
  | _, [] => []
  | i, some v :: l => (i, ev_cv ad v) :: ev_pr ad (i + 1) l
  | i, none :: l => ev_pr ad (i + 1) l
theorem ev_pr_mem (ad : Nat → Nat) : ∀ (L : List (Option Value)) (o : Nat) (q : Nat × Value), q ∈ ev_pr ad o L → ∃ i v, q = (o + i, ev_cv ad v) ∧ ev_lk L i = some v
  | [], _, _, h => absurd h List.not_mem_nil
  | some v :: l, o, q, h => by
    rcases List.mem_cons.mp h with h | h
    · exact ⟨0, v, h, rfl⟩
    · obtain ⟨i, u, e1, e2⟩ := ev_pr_mem ad l (o + 1) q h
      exact ⟨i + 1, u, by rw [e1, show o + (i + 1) = o + 1 + i by omega], e2⟩
  | none :: l, o, q, h => by
    obtain ⟨i, u, e1, e2⟩ := ev_pr_mem ad l (o + 1) q h
    exact ⟨i + 1, u, by rw [e1, show o + (i + 1) = o + 1 + i by omega], e2⟩
theorem ev_pr_in (ad : Nat → Nat) : ∀ (L : List (Option Value)) (o i : Nat) (v : Value), ev_lk L i = some v → (o + i, ev_cv ad v) ∈ ev_pr ad o L
  | [], _, _, _, h => by simp [ev_lk] at h
  | some v :: l, o, 0, u, h => by cases h; exact List.mem_cons_self
  | none :: l, o, 0, u, h => by cases h
  | some v :: l, o, i + 1, u, h => by
    refine List.mem_cons_of_mem _ ?_
    rw [show o + (i + 1) = o + 1 + i by omega]
    exact ev_pr_in ad l (o + 1) i u h
  | none :: l, o, i + 1, u, h => by
    rw [show o + (i + 1) = o + 1 + i by omega]
    exact ev_pr_in ad l (o + 1) i u h
theorem ev_lr_has {ad : Nat → Nat} {L : List (Option Value)} {ls : Array Slot} {nL : Nat} (h : ev_lr ad L ls nL) : lv_has ls nL (ev_pr ad 0 L) := by
  refine ⟨h.1, h.2.1, fun q hq => ?_⟩
  obtain ⟨i, v, rfl, e⟩ := ev_pr_mem ad L 0 q hq
  rw [Nat.zero_add]
  exact h.2.2 i v e
theorem ev_lr_st1 {ad : Nat → Nat} {L : List (Option Value)} {ls' : Array Slot} {nL i : Nat} {v : Value} (h : lv_has ls' nL ((i, ev_cv ad v) :: (ev_pr ad 0 L).filter (fun q => !(q.1 == i) && !(q.1 + 1 == i && q.2.category == 2)))) : ev_lr ad (ev_st1 L i v) ls' nL := by
  refine ⟨h.1, h.2.1, fun j u hj => ?_⟩
  rcases ev_lk_se _ i _ j u hj with ⟨rfl, e⟩ | ⟨hne, e⟩
  · cases e
    exact h.2.2 (j, ev_cv ad v) List.mem_cons_self
  · obtain ⟨e1, e2⟩ := ev_lk_clr e
    have hm := ev_pr_in ad L 0 j u e1
    rw [Nat.zero_add] at hm
    refine h.2.2 (j, ev_cv ad u) (List.mem_cons_of_mem _ (List.mem_filter.mpr ⟨hm, ?_⟩))
    simp only [ev_cv_cat, Bool.and_eq_true, Bool.not_eq_true', beq_eq_false_iff_ne, ne_eq, Bool.and_eq_false_iff]
    refine ⟨hne, ?_⟩
    by_cases z : j + 1 = i
    · exact Or.inr (fun z2 => e2 ⟨z, z2⟩)
    · exact Or.inl z
theorem ev_lr_st2 {ad : Nat → Nat} {L : List (Option Value)} {ls' : Array Slot} {nL i : Nat} {v : Value} (h : lv_has ls' nL ((i, ev_cv ad v) :: (ev_pr ad 0 L).filter (fun q => !(q.1 == i) && (!(q.1 == i + 1) && !(q.1 + 1 == i && q.2.category == 2))))) : ev_lr ad (ev_st2 L i v) ls' nL := by
  refine ⟨h.1, h.2.1, fun j u hj => ?_⟩
  rcases ev_lk_se _ (i + 1) _ j u hj with ⟨rfl, e⟩ | ⟨hne1, e⟩
  · cases e
  · rcases ev_lk_se _ i _ j u e with ⟨e7, e9⟩ | ⟨hne, e⟩
    · cases e9
      rw [e7]
      exact h.2.2 (i, ev_cv ad v) List.mem_cons_self
    · obtain ⟨e1, e2⟩ := ev_lk_clr e
      have hm := ev_pr_in ad L 0 j u e1
      rw [Nat.zero_add] at hm
      refine h.2.2 (j, ev_cv ad u) (List.mem_cons_of_mem _ (List.mem_filter.mpr ⟨hm, ?_⟩))
      simp only [ev_cv_cat, Bool.and_eq_true, Bool.not_eq_true', beq_eq_false_iff_ne, ne_eq, Bool.and_eq_false_iff]
      refine ⟨hne, hne1, ?_⟩
      by_cases z : j + 1 = i
      · exact Or.inr (fun z2 => e2 ⟨z, z2⟩)
      · exact Or.inl z
theorem ev_wl_st1 {n : Nat} {L : List (Option Value)} {i : Nat} {v : Value} (hl : ev_wl n L) (hv : ev_wv n v) : ev_wl n (ev_st1 L i v) := fun j u hj => by
  rcases ev_lk_se _ i _ j u hj with ⟨rfl, e⟩ | ⟨hne, e⟩
  · cases e; exact hv
  · exact hl j u (ev_lk_clr e).1
theorem ev_wl_st2 {n : Nat} {L : List (Option Value)} {i : Nat} {v : Value} (hl : ev_wl n L) (hv : ev_wv n v) : ev_wl n (ev_st2 L i v) := fun j u hj => by
  rcases ev_lk_se _ (i + 1) _ j u hj with ⟨rfl, e⟩ | ⟨hne1, e⟩
  · cases e
  · rcases ev_lk_se _ i _ j u e with ⟨e7, e9⟩ | ⟨hne, e⟩
    · cases e9; exact hv
    · exact hl j u (ev_lk_clr e).1
section EVT
variable {E : ev_E} {M : ev_M} {pc q : Nat} {L : List (Option Value)} {st : List Value} {n : Nat} {w : ev_W} {cs : Nat × Nat} {Q : Option Value → Nat → ev_W → Prop} {L' : List (Option Value)}
theorem st_istore_n {i : Fin 4} {j : Nat} {x : Int32} (d : decode (ev_cc M) pc = .ok (.istore_n i, 1)) (hq : pc + 1 = q) (hj : (i : Nat) = j) (hn : j < ev_ml M) (hL : ev_st1 L j (.int x) = L') (k : Ev E M q L' st n w cs Q) : Ev E M pc L (.int x :: st) n w cs Q := by
  subst hq; subst hL
  intro p e s m args below meth c A ad0 n0 ad H locs ls F Dy hl hk hr h1 h2
  exact lv_istore_n F.1 F.2.1 d hj (ev_lr_has hr) hn rfl (fun ls' hl' => k p e s m args below meth c A ad0 n0 ad H locs ls' F Dy (ev_wl_st1 hl trivial) (ev_wk_tl hk) (ev_lr_st1 hl') h1 h2)
theorem st_istore {i : Nat} {x : Int32} (d : decode (ev_cc M) pc = .ok (.istore i, 2)) (hq : pc + 2 = q) (hn : i < ev_ml M) (hL : ev_st1 L i (.int x) = L') (k : Ev E M q L' st n w cs Q) : Ev E M pc L (.int x :: st) n w cs Q := by
  subst hq; subst hL
  intro p e s m args below meth c A ad0 n0 ad H locs ls F Dy hl hk hr h1 h2
  exact lv_istore F.1 F.2.1 d (ev_lr_has hr) hn rfl (fun ls' hl' => k p e s m args below meth c A ad0 n0 ad H locs ls' F Dy (ev_wl_st1 hl trivial) (ev_wk_tl hk) (ev_lr_st1 hl') h1 h2)
theorem st_astore_n {i : Fin 4} {j : Nat} {x : Nat} (d : decode (ev_cc M) pc = .ok (.astore_n i, 1)) (hq : pc + 1 = q) (hj : (i : Nat) = j) (hn : j < ev_ml M) (hL : ev_st1 L j (.ref x) = L') (k : Ev E M q L' st n w cs Q) : Ev E M pc L (.ref x :: st) n w cs Q := by
  subst hq; subst hL
  intro p e s m args below meth c A ad0 n0 ad H locs ls F Dy hl hk hr h1 h2
  exact lv_astore_n F.1 F.2.1 d hj (ev_lr_has hr) hn rfl (fun ls' hl' => k p e s m args below meth c A ad0 n0 ad H locs ls' F Dy (ev_wl_st1 hl (ev_wk_hd hk)) (ev_wk_tl hk) (ev_lr_st1 hl') h1 h2)
theorem st_astore {i : Nat} {x : Nat} (d : decode (ev_cc M) pc = .ok (.astore i, 2)) (hq : pc + 2 = q) (hn : i < ev_ml M) (hL : ev_st1 L i (.ref x) = L') (k : Ev E M q L' st n w cs Q) : Ev E M pc L (.ref x :: st) n w cs Q := by
  subst hq; subst hL
  intro p e s m args below meth c A ad0 n0 ad H locs ls F Dy hl hk hr h1 h2
  exact lv_astore F.1 F.2.1 d (ev_lr_has hr) hn rfl (fun ls' hl' => k p e s m args below meth c A ad0 n0 ad H locs ls' F Dy (ev_wl_st1 hl (ev_wk_hd hk)) (ev_wk_tl hk) (ev_lr_st1 hl') h1 h2)
theorem st_lstore_n {i : Fin 4} {j : Nat} {x : Int64} (d : decode (ev_cc M) pc = .ok (.lstore_n i, 1)) (hq : pc + 1 = q) (hj : (i : Nat) = j) (hn : j + 1 < ev_ml M) (hL : ev_st2 L j (.long x) = L') (k : Ev E M q L' st n w cs Q) : Ev E M pc L (.long x :: st) n w cs Q := by
  subst hq; subst hL
  intro p e s m args below meth c A ad0 n0 ad H locs ls F Dy hl hk hr h1 h2
  exact lv_lstore_n F.1 F.2.1 d hj (ev_lr_has hr) hn rfl (fun ls' hl' => k p e s m args below meth c A ad0 n0 ad H locs ls' F Dy (ev_wl_st2 hl trivial) (ev_wk_tl hk) (ev_lr_st2 hl') h1 h2)
theorem st_lstore {i : Nat} {x : Int64} (d : decode (ev_cc M) pc = .ok (.lstore i, 2)) (hq : pc + 2 = q) (hn : i + 1 < ev_ml M) (hL : ev_st2 L i (.long x) = L') (k : Ev E M q L' st n w cs Q) : Ev E M pc L (.long x :: st) n w cs Q := by
  subst hq; subst hL
  intro p e s m args below meth c A ad0 n0 ad H locs ls F Dy hl hk hr h1 h2
  exact lv_lstore F.1 F.2.1 d (ev_lr_has hr) hn rfl (fun ls' hl' => k p e s m args below meth c A ad0 n0 ad H locs ls' F Dy (ev_wl_st2 hl trivial) (ev_wk_tl hk) (ev_lr_st2 hl') h1 h2)
theorem st_iinc {i : Nat} {a : Int} {x v : Int32} (d : decode (ev_cc M) pc = .ok (.iinc i a, 3)) (hq : pc + 3 = q) (hx : ev_lk L i = some (.int x)) (hv : x + Int32.ofInt a = v) (hn : i < ev_ml M) (hL : ev_st1 L i (.int v) = L') (k : Ev E M q L' st n w cs Q) : Ev E M pc L st n w cs Q := by
  subst hq; subst hL
  intro p e s m args below meth c A ad0 n0 ad H locs ls F Dy hl hk hr h1 h2
  have hm := ev_pr_in ad L 0 i _ hx
  rw [Nat.zero_add] at hm
  obtain ⟨j, hj⟩ := List.getElem?_of_mem hm
  exact lv_iinc F.1 F.2.1 d (ev_lr_has hr) hj hv hn rfl (fun ls' hl' => k p e s m args below meth c A ad0 n0 ad H locs ls' F Dy (ev_wl_st1 hl trivial) hk (ev_lr_st1 hl') h1 h2)
def ev_le : List (Option Value) → List (Option Value) → Prop
  | [], _ => True
  | none :: l, _ :: l' => ev_le l l'
  | some v :: l, x :: l' => x = some v ∧ ev_le l l'
  | none :: l, [] => ev_le l []
  | some _ :: _, [] => False
theorem ev_le_lk : ∀ (L L' : List (Option Value)), ev_le L L' → ∀ i v, ev_lk L i = some v → ev_lk L' i = some v
  | [], _, _, _, _, h => by simp [ev_lk] at h
  | none :: l, _ :: l', _, 0, _, h => by simp [ev_lk] at h
  | none :: l, _ :: l', z, i + 1, v, h => ev_le_lk l l' z i v h
  | some u :: l, x :: l', z, 0, v, h => by cases h; exact z.1
  | some u :: l, x :: l', z, i + 1, v, h => ev_le_lk l l' z.2 i v h
  | none :: l, [], _, 0, _, h => by simp [ev_lk] at h
  | none :: l, [], z, i + 1, v, h => by have := ev_le_lk l [] z i v h; simp [ev_lk] at this
  | some _ :: _, [], z, _, _, _ => z.elim
theorem Ev.weak (h : ev_le L' L) (k : Ev E M pc L' st n w cs Q) : Ev E M pc L st n w cs Q := by
  intro p e s m args below meth c A ad0 n0 ad H locs ls F Dy hl hk hr h1 h2
  exact k p e s m args below meth c A ad0 n0 ad H locs ls F Dy (fun i v z => hl i v (ev_le_lk _ _ h i v z)) hk ⟨hr.1, hr.2.1, fun i v z => hr.2.2 i v (ev_le_lk _ _ h i v z)⟩ h1 h2
end EVT
