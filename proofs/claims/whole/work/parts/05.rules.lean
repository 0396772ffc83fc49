section RULES
variable {g : Gl} {l : Launch} {R : Room} {XX : State → Method → Prop} {QQ : List Frame → Array Value → State → State → Prop} {own : String} {cc : ByteArray} {nL : Nat} {ret : Option FieldType} {pc : Nat} {L : List (Option Value)} {st : List Value} {S : Sg} {c1 s1 : Nat}
theorem g_iadd {x y : Int32} (n : Nat) (hd : decode cc pc = .ok (.iadd, 1)) (hn : pc + 1 = n) (kk : Gj g l R XX QQ own cc nL ret n L (.int (x + y) :: st) S c1 s1) : Gj g l R XX QQ own cc nL ret pc L (.int y :: .int x :: st) S c1 s1 := by
  subst hn
  intro p e s m args below meth c H locs ls C hX hW hS hl
  exact lv_iadd C.1 C.2.1 hd (kk p e s m args below meth c H locs ls C hX hW hS hl)
theorem g_isub {x y : Int32} (n : Nat) (hd : decode cc pc = .ok (.isub, 1)) (hn : pc + 1 = n) (kk : Gj g l R XX QQ own cc nL ret n L (.int (x - y) :: st) S c1 s1) : Gj g l R XX QQ own cc nL ret pc L (.int y :: .int x :: st) S c1 s1 := by
  subst hn
  intro p e s m args below meth c H locs ls C hX hW hS hl
  exact lv_isub C.1 C.2.1 hd (kk p e s m args below meth c H locs ls C hX hW hS hl)
theorem g_imul {x y : Int32} (n : Nat) (hd : decode cc pc = .ok (.imul, 1)) (hn : pc + 1 = n) (kk : Gj g l R XX QQ own cc nL ret n L (.int (x * y) :: st) S c1 s1) : Gj g l R XX QQ own cc nL ret pc L (.int y :: .int x :: st) S c1 s1 := by
  subst hn
  intro p e s m args below meth c H locs ls C hX hW hS hl
  exact lv_imul C.1 C.2.1 hd (kk p e s m args below meth c H locs ls C hX hW hS hl)
theorem g_iand {x y : Int32} (n : Nat) (hd : decode cc pc = .ok (.iand, 1)) (hn : pc + 1 = n) (kk : Gj g l R XX QQ own cc nL ret n L (.int (x &&& y) :: st) S c1 s1) : Gj g l R XX QQ own cc nL ret pc L (.int y :: .int x :: st) S c1 s1 := by
  subst hn
  intro p e s m args below meth c H locs ls C hX hW hS hl
  exact lv_iand C.1 C.2.1 hd (kk p e s m args below meth c H locs ls C hX hW hS hl)
theorem g_ior {x y : Int32} (n : Nat) (hd : decode cc pc = .ok (.ior, 1)) (hn : pc + 1 = n) (kk : Gj g l R XX QQ own cc nL ret n L (.int (x ||| y) :: st) S c1 s1) : Gj g l R XX QQ own cc nL ret pc L (.int y :: .int x :: st) S c1 s1 := by
  subst hn
  intro p e s m args below meth c H locs ls C hX hW hS hl
  exact lv_ior C.1 C.2.1 hd (kk p e s m args below meth c H locs ls C hX hW hS hl)
theorem g_ixor {x y : Int32} (n : Nat) (hd : decode cc pc = .ok (.ixor, 1)) (hn : pc + 1 = n) (kk : Gj g l R XX QQ own cc nL ret n L (.int (x ^^^ y) :: st) S c1 s1) : Gj g l R XX QQ own cc nL ret pc L (.int y :: .int x :: st) S c1 s1 := by
  subst hn
  intro p e s m args below meth c H locs ls C hX hW hS hl
  exact lv_ixor C.1 C.2.1 hd (kk p e s m args below meth c H locs ls C hX hW hS hl)
theorem g_ishl {x y : Int32} (n : Nat) (hd : decode cc pc = .ok (.ishl, 1)) (hn : pc + 1 = n) (kk : Gj g l R XX QQ own cc nL ret n L (.int (x <<< (y &&& 31)) :: st) S c1 s1) : Gj g l R XX QQ own cc nL ret pc L (.int y :: .int x :: st) S c1 s1 := by
  subst hn
  intro p e s m args below meth c H locs ls C hX hW hS hl
  exact lv_ishl C.1 C.2.1 hd (kk p e s m args below meth c H locs ls C hX hW hS hl)
theorem g_ishr {x y : Int32} (n : Nat) (hd : decode cc pc = .ok (.ishr, 1)) (hn : pc + 1 = n) (kk : Gj g l R XX QQ own cc nL ret n L (.int (x >>> (y &&& 31)) :: st) S c1 s1) : Gj g l R XX QQ own cc nL ret pc L (.int y :: .int x :: st) S c1 s1 := by
  subst hn
  intro p e s m args below meth c H locs ls C hX hW hS hl
  exact lv_ishr C.1 C.2.1 hd (kk p e s m args below meth c H locs ls C hX hW hS hl)
theorem g_ladd {x y : Int64} (n : Nat) (hd : decode cc pc = .ok (.ladd, 1)) (hn : pc + 1 = n) (kk : Gj g l R XX QQ own cc nL ret n L (.long (x + y) :: st) S c1 s1) : Gj g l R XX QQ own cc nL ret pc L (.long y :: .long x :: st) S c1 s1 := by
  subst hn
  intro p e s m args below meth c H locs ls C hX hW hS hl
  exact lv_ladd C.1 C.2.1 hd (kk p e s m args below meth c H locs ls C hX hW hS hl)
theorem g_lsub {x y : Int64} (n : Nat) (hd : decode cc pc = .ok (.lsub, 1)) (hn : pc + 1 = n) (kk : Gj g l R XX QQ own cc nL ret n L (.long (x - y) :: st) S c1 s1) : Gj g l R XX QQ own cc nL ret pc L (.long y :: .long x :: st) S c1 s1 := by
  subst hn
  intro p e s m args below meth c H locs ls C hX hW hS hl
  exact lv_lsub C.1 C.2.1 hd (kk p e s m args below meth c H locs ls C hX hW hS hl)
theorem g_lmul {x y : Int64} (n : Nat) (hd : decode cc pc = .ok (.lmul, 1)) (hn : pc + 1 = n) (kk : Gj g l R XX QQ own cc nL ret n L (.long (x * y) :: st) S c1 s1) : Gj g l R XX QQ own cc nL ret pc L (.long y :: .long x :: st) S c1 s1 := by
  subst hn
  intro p e s m args below meth c H locs ls C hX hW hS hl
  exact lv_lmul C.1 C.2.1 hd (kk p e s m args below meth c H locs ls C hX hW hS hl)
theorem g_land {x y : Int64} (n : Nat) (hd : decode cc pc = .ok (.land, 1)) (hn : pc + 1 = n) (kk : Gj g l R XX QQ own cc nL ret n L (.long (x &&& y) :: st) S c1 s1) : Gj g l R XX QQ own cc nL ret pc L (.long y :: .long x :: st) S c1 s1 := by
  subst hn
  intro p e s m args below meth c H locs ls C hX hW hS hl
  exact lv_land C.1 C.2.1 hd (kk p e s m args below meth c H locs ls C hX hW hS hl)
theorem g_lor {x y : Int64} (n : Nat) (hd : decode cc pc = .ok (.lor, 1)) (hn : pc + 1 = n) (kk : Gj g l R XX QQ own cc nL ret n L (.long (x ||| y) :: st) S c1 s1) : Gj g l R XX QQ own cc nL ret pc L (.long y :: .long x :: st) S c1 s1 := by
  subst hn
  intro p e s m args below meth c H locs ls C hX hW hS hl
  exact lv_lor C.1 C.2.1 hd (kk p e s m args below meth c H locs ls C hX hW hS hl)
theorem g_lxor {x y : Int64} (n : Nat) (hd : decode cc pc = .ok (.lxor, 1)) (hn : pc + 1 = n) (kk : Gj g l R XX QQ own cc nL ret n L (.long (x ^^^ y) :: st) S c1 s1) : Gj g l R XX QQ own cc nL ret pc L (.long y :: .long x :: st) S c1 s1 := by
  subst hn
  intro p e s m args below meth c H locs ls C hX hW hS hl
  exact lv_lxor C.1 C.2.1 hd (kk p e s m args below meth c H locs ls C hX hW hS hl)
theorem g_idiv {x y : Int32} (n : Nat) (hd : decode cc pc = .ok (.idiv, 1)) (hn : pc + 1 = n) (hne : ¬ y = 0) (kk : Gj g l R XX QQ own cc nL ret n L (.int (x / y) :: st) S c1 s1) : Gj g l R XX QQ own cc nL ret pc L (.int y :: .int x :: st) S c1 s1 := by
  subst hn
  intro p e s m args below meth c H locs ls C hX hW hS hl
  exact lv_idiv C.1 C.2.1 hd hne (kk p e s m args below meth c H locs ls C hX hW hS hl)
theorem g_irem {x y : Int32} (n : Nat) (hd : decode cc pc = .ok (.irem, 1)) (hn : pc + 1 = n) (hne : ¬ y = 0) (kk : Gj g l R XX QQ own cc nL ret n L (.int (x - x / y * y) :: st) S c1 s1) : Gj g l R XX QQ own cc nL ret pc L (.int y :: .int x :: st) S c1 s1 := by
  subst hn
  intro p e s m args below meth c H locs ls C hX hW hS hl
  exact lv_irem C.1 C.2.1 hd hne (kk p e s m args below meth c H locs ls C hX hW hS hl)
theorem g_ineg {x : Int32} (n : Nat) (hd : decode cc pc = .ok (.ineg, 1)) (hn : pc + 1 = n) (kk : Gj g l R XX QQ own cc nL ret n L (.int (-x) :: st) S c1 s1) : Gj g l R XX QQ own cc nL ret pc L (.int x :: st) S c1 s1 := by
  subst hn
  intro p e s m args below meth c H locs ls C hX hW hS hl
  exact lv_ineg C.1 C.2.1 hd (kk p e s m args below meth c H locs ls C hX hW hS hl)
theorem g_iushr {x y : Int32} (n : Nat) (hd : decode cc pc = .ok (.iushr, 1)) (hn : pc + 1 = n) (kk : Gj g l R XX QQ own cc nL ret n L (.int (x.toUInt32 >>> (y.toUInt32 &&& Int32.toUInt32 31)).toInt32 :: st) S c1 s1) : Gj g l R XX QQ own cc nL ret pc L (.int y :: .int x :: st) S c1 s1 := by
  subst hn
  intro p e s m args below meth c H locs ls C hX hW hS hl
  exact lv_iushr C.1 C.2.1 hd rfl (kk p e s m args below meth c H locs ls C hX hW hS hl)
theorem g_lushr {x : Int64} {y : Int32} (n : Nat) (hd : decode cc pc = .ok (.lushr, 1)) (hn : pc + 1 = n) (kk : Gj g l R XX QQ own cc nL ret n L (.long (x.toUInt64 >>> (y.toInt64.toUInt64 &&& Int64.toUInt64 63)).toInt64 :: st) S c1 s1) : Gj g l R XX QQ own cc nL ret pc L (.int y :: .long x :: st) S c1 s1 := by
  subst hn
  intro p e s m args below meth c H locs ls C hX hW hS hl
  exact lv_lushr C.1 C.2.1 hd rfl (kk p e s m args below meth c H locs ls C hX hW hS hl)
theorem g_lshl {x : Int64} {y : Int32} (n : Nat) (hd : decode cc pc = .ok (.lshl, 1)) (hn : pc + 1 = n) (kk : Gj g l R XX QQ own cc nL ret n L (.long (x <<< (y.toInt64 &&& 63)) :: st) S c1 s1) : Gj g l R XX QQ own cc nL ret pc L (.int y :: .long x :: st) S c1 s1 := by
  subst hn
  intro p e s m args below meth c H locs ls C hX hW hS hl
  exact lv_lshl C.1 C.2.1 hd rfl (kk p e s m args below meth c H locs ls C hX hW hS hl)
theorem g_lshr {x : Int64} {y : Int32} (n : Nat) (hd : decode cc pc = .ok (.lshr, 1)) (hn : pc + 1 = n) (kk : Gj g l R XX QQ own cc nL ret n L (.long (x >>> (y.toInt64 &&& 63)) :: st) S c1 s1) : Gj g l R XX QQ own cc nL ret pc L (.int y :: .long x :: st) S c1 s1 := by
  subst hn
  intro p e s m args below meth c H locs ls C hX hW hS hl
  exact lv_lshr C.1 C.2.1 hd rfl (kk p e s m args below meth c H locs ls C hX hW hS hl)
theorem g_i2l {x : Int32} (n : Nat) (hd : decode cc pc = .ok (.i2l, 1)) (hn : pc + 1 = n) (kk : Gj g l R XX QQ own cc nL ret n L (.long x.toInt64 :: st) S c1 s1) : Gj g l R XX QQ own cc nL ret pc L (.int x :: st) S c1 s1 := by
  subst hn
  intro p e s m args below meth c H locs ls C hX hW hS hl
  exact lv_i2l C.1 C.2.1 hd rfl (kk p e s m args below meth c H locs ls C hX hW hS hl)
theorem g_l2i {x : Int64} (n : Nat) (hd : decode cc pc = .ok (.l2i, 1)) (hn : pc + 1 = n) (kk : Gj g l R XX QQ own cc nL ret n L (.int x.toInt32 :: st) S c1 s1) : Gj g l R XX QQ own cc nL ret pc L (.long x :: st) S c1 s1 := by
  subst hn
  intro p e s m args below meth c H locs ls C hX hW hS hl
  exact lv_l2i C.1 C.2.1 hd rfl (kk p e s m args below meth c H locs ls C hX hW hS hl)
theorem g_i2b {x : Int32} (n : Nat) (hd : decode cc pc = .ok (.i2b, 1)) (hn : pc + 1 = n) (kk : Gj g l R XX QQ own cc nL ret n L (.int x.toInt8.toInt32 :: st) S c1 s1) : Gj g l R XX QQ own cc nL ret pc L (.int x :: st) S c1 s1 := by
  subst hn
  intro p e s m args below meth c H locs ls C hX hW hS hl
  exact lv_i2b C.1 C.2.1 hd rfl (kk p e s m args below meth c H locs ls C hX hW hS hl)
theorem g_i2c {x : Int32} (n : Nat) (hd : decode cc pc = .ok (.i2c, 1)) (hn : pc + 1 = n) (kk : Gj g l R XX QQ own cc nL ret n L (.int (x.toUInt32 % 65536).toInt32 :: st) S c1 s1) : Gj g l R XX QQ own cc nL ret pc L (.int x :: st) S c1 s1 := by
  subst hn
  intro p e s m args below meth c H locs ls C hX hW hS hl
  exact lv_i2c C.1 C.2.1 hd rfl (kk p e s m args below meth c H locs ls C hX hW hS hl)
theorem g_lcmp {x y : Int64} (n : Nat) (hd : decode cc pc = .ok (.lcmp, 1)) (hn : pc + 1 = n) (kk : Gj g l R XX QQ own cc nL ret n L (.int (lg_cmp x y) :: st) S c1 s1) : Gj g l R XX QQ own cc nL ret pc L (.long y :: .long x :: st) S c1 s1 := by
  subst hn
  intro p e s m args below meth c H locs ls C hX hW hS hl
  exact W.lcmp C.1 C.2.1 hd (kk p e s m args below meth c H locs ls C hX hW hS hl)
theorem g_iconst {i : Int} (v : Int32) (n : Nat) (hd : decode cc pc = .ok (.iconst i, 1)) (hn : pc + 1 = n) (hv : Int32.ofInt i = v) (kk : Gj g l R XX QQ own cc nL ret n L (.int v :: st) S c1 s1) : Gj g l R XX QQ own cc nL ret pc L (st) S c1 s1 := by
  subst hn
  intro p e s m args below meth c H locs ls C hX hW hS hl
  exact lv_iconst C.1 C.2.1 hd hv (kk p e s m args below meth c H locs ls C hX hW hS hl)
theorem g_bipush {i : Int} (v : Int32) (n : Nat) (hd : decode cc pc = .ok (.bipush i, 2)) (hn : pc + 2 = n) (hv : (Int8.ofInt i).toInt32 = v) (kk : Gj g l R XX QQ own cc nL ret n L (.int v :: st) S c1 s1) : Gj g l R XX QQ own cc nL ret pc L (st) S c1 s1 := by
  subst hn
  intro p e s m args below meth c H locs ls C hX hW hS hl
  exact lv_bipush C.1 C.2.1 hd hv (kk p e s m args below meth c H locs ls C hX hW hS hl)
theorem g_sipush {i : Int} (v : Int32) (n : Nat) (hd : decode cc pc = .ok (.sipush i, 3)) (hn : pc + 3 = n) (hv : (Int16.ofInt i).toInt32 = v) (kk : Gj g l R XX QQ own cc nL ret n L (.int v :: st) S c1 s1) : Gj g l R XX QQ own cc nL ret pc L (st) S c1 s1 := by
  subst hn
  intro p e s m args below meth c H locs ls C hX hW hS hl
  exact lv_sipush C.1 C.2.1 hd hv (kk p e s m args below meth c H locs ls C hX hW hS hl)
theorem g_lconst {i : Fin 2} (v : Int64) (n : Nat) (hd : decode cc pc = .ok (.lconst i, 1)) (hn : pc + 1 = n) (hv : Int64.ofNat (i : Nat) = v) (kk : Gj g l R XX QQ own cc nL ret n L (.long v :: st) S c1 s1) : Gj g l R XX QQ own cc nL ret pc L (st) S c1 s1 := by
  subst hn
  intro p e s m args below meth c H locs ls C hX hW hS hl
  exact lv_lconst C.1 C.2.1 hd hv (kk p e s m args below meth c H locs ls C hX hW hS hl)
theorem g_dup {v : Value} (n : Nat) (hd : decode cc pc = .ok (.dup, 1)) (hn : pc + 1 = n) (h1 : v.category = 1) (kk : Gj g l R XX QQ own cc nL ret n L (v :: v :: st) S c1 s1) : Gj g l R XX QQ own cc nL ret pc L (v :: st) S c1 s1 := by
  subst hn
  intro p e s m args below meth c H locs ls C hX hW hS hl
  exact lv_dup C.1 C.2.1 hd (by rw [rv_cat]; exact h1) (kk p e s m args below meth c H locs ls C hX hW hS hl)
theorem g_pop {v : Value} (n : Nat) (hd : decode cc pc = .ok (.pop, 1)) (hn : pc + 1 = n) (h1 : v.category = 1) (kk : Gj g l R XX QQ own cc nL ret n L (st) S c1 s1) : Gj g l R XX QQ own cc nL ret pc L (v :: st) S c1 s1 := by
  subst hn
  intro p e s m args below meth c H locs ls C hX hW hS hl
  exact lv_pop C.1 C.2.1 hd (by rw [rv_cat]; exact h1) (kk p e s m args below meth c H locs ls C hX hW hS hl)
theorem g_dup_x1 {v w : Value} (n : Nat) (hd : decode cc pc = .ok (.dup_x1, 1)) (hn : pc + 1 = n) (h1 : v.category = 1) (h2 : w.category = 1) (kk : Gj g l R XX QQ own cc nL ret n L (v :: w :: v :: st) S c1 s1) : Gj g l R XX QQ own cc nL ret pc L (v :: w :: st) S c1 s1 := by
  subst hn
  intro p e s m args below meth c H locs ls C hX hW hS hl
  exact lv_dup_x1 C.1 C.2.1 hd (by rw [rv_cat]; exact h1) (by rw [rv_cat]; exact h2) (kk p e s m args below meth c H locs ls C hX hW hS hl)
theorem g_dup_x2 {v w u : Value} (n : Nat) (hd : decode cc pc = .ok (.dup_x2, 1)) (hn : pc + 1 = n) (h1 : v.category = 1) (h2 : w.category = 1) (h3 : u.category = 1) (kk : Gj g l R XX QQ own cc nL ret n L (v :: w :: u :: v :: st) S c1 s1) : Gj g l R XX QQ own cc nL ret pc L (v :: w :: u :: st) S c1 s1 := by
  subst hn
  intro p e s m args below meth c H locs ls C hX hW hS hl
  exact lv_dup_x2 C.1 C.2.1 hd (by rw [rv_cat]; exact h1) (by rw [rv_cat]; exact h2) (by rw [rv_cat]; exact h3) (kk p e s m args below meth c H locs ls C hX hW hS hl)
theorem g_dup2 {v w : Value} (n : Nat) (hd : decode cc pc = .ok (.dup2, 1)) (hn : pc + 1 = n) (h1 : v.category = 1) (h2 : w.category = 1) (kk : Gj g l R XX QQ own cc nL ret n L (v :: w :: v :: w :: st) S c1 s1) : Gj g l R XX QQ own cc nL ret pc L (v :: w :: st) S c1 s1 := by
  subst hn
  intro p e s m args below meth c H locs ls C hX hW hS hl
  exact lv_dup2_11 C.1 C.2.1 hd (by rw [rv_cat]; exact h1) (by rw [rv_cat]; exact h2) (kk p e s m args below meth c H locs ls C hX hW hS hl)
theorem g_ldc {idx : Nat} {v : Int32} (n : Nat) (hd : decode cc pc = .ok (.ldc idx, 2)) (hn : pc + 2 = n) (hc : Cond.constant own idx v ∈ lw_tbl) (kk : Gj g l R XX QQ own cc nL ret n L (.int v :: st) S c1 s1) : Gj g l R XX QQ own cc nL ret pc L st S c1 s1 := by
  subst hn
  intro p e s m args below meth c H locs ls C hX hW hS hl
  exact lv_ldc C.1 C.2.1 C.2.2.2.2.1 (C.2.2.2.2.2.2.1 _ (mem_g hc rfl)) hd (kk p e s m args below meth c H locs ls C hX hW hS hl)
theorem g_ldcw {idx : Nat} {v : Int32} (n : Nat) (hd : decode cc pc = .ok (.ldc_w idx, 3)) (hn : pc + 3 = n) (hc : Cond.constant own idx v ∈ lw_tbl) (kk : Gj g l R XX QQ own cc nL ret n L (.int v :: st) S c1 s1) : Gj g l R XX QQ own cc nL ret pc L st S c1 s1 := by
  subst hn
  intro p e s m args below meth c H locs ls C hX hW hS hl
  exact lv_ldcw C.1 C.2.1 C.2.2.2.2.1 (C.2.2.2.2.2.2.1 _ (mem_g hc rfl)) hd (kk p e s m args below meth c H locs ls C hX hW hS hl)
theorem g_ldc2 {idx : Nat} {v : Int64} (n : Nat) (hd : decode cc pc = .ok (.ldc2_w idx, 3)) (hn : pc + 3 = n) (hc : Cond.constantLong own idx v ∈ lw_tbl) (kk : Gj g l R XX QQ own cc nL ret n L (.long v :: st) S c1 s1) : Gj g l R XX QQ own cc nL ret pc L st S c1 s1 := by
  subst hn
  intro p e s m args below meth c H locs ls C hX hW hS hl
  exact lv_ldc2 C.1 C.2.1 C.2.2.2.2.1 (C.2.2.2.2.2.2.1 _ (mem_g hc rfl)) hd (kk p e s m args below meth c H locs ls C hX hW hS hl)
theorem g_iload_n {k : Fin 4} {x : Int32} (n : Nat) (hd : decode cc pc = .ok (.iload_n k, 1)) (hn : pc + 1 = n) (hg : lg L (k : Nat) = some (.int x)) (kk : Gj g l R XX QQ own cc nL ret n L (.int x :: st) S c1 s1) : Gj g l R XX QQ own cc nL ret pc L st S c1 s1 := by
  subst hn
  intro p e s m args below meth c H locs ls C hX hW hS hl
  exact lv_iload_n C.1 C.2.1 hd rfl (hl.2.2 _ _ hg) (kk p e s m args below meth c H locs ls C hX hW hS hl)
theorem g_iload {k : Nat} {x : Int32} (n : Nat) (hd : decode cc pc = .ok (.iload k, 2)) (hn : pc + 2 = n) (hg : lg L k = some (.int x)) (kk : Gj g l R XX QQ own cc nL ret n L (.int x :: st) S c1 s1) : Gj g l R XX QQ own cc nL ret pc L st S c1 s1 := by
  subst hn
  intro p e s m args below meth c H locs ls C hX hW hS hl
  exact lv_iload C.1 C.2.1 hd (hl.2.2 _ _ hg) (kk p e s m args below meth c H locs ls C hX hW hS hl)
theorem g_lload_n {k : Fin 4} {x : Int64} (n : Nat) (hd : decode cc pc = .ok (.lload_n k, 1)) (hn : pc + 1 = n) (hg : lg L (k : Nat) = some (.long x)) (kk : Gj g l R XX QQ own cc nL ret n L (.long x :: st) S c1 s1) : Gj g l R XX QQ own cc nL ret pc L st S c1 s1 := by
  subst hn
  intro p e s m args below meth c H locs ls C hX hW hS hl
  exact lv_lload_n C.1 C.2.1 hd rfl (hl.2.2 _ _ hg) (kk p e s m args below meth c H locs ls C hX hW hS hl)
theorem g_lload {k : Nat} {x : Int64} (n : Nat) (hd : decode cc pc = .ok (.lload k, 2)) (hn : pc + 2 = n) (hg : lg L k = some (.long x)) (kk : Gj g l R XX QQ own cc nL ret n L (.long x :: st) S c1 s1) : Gj g l R XX QQ own cc nL ret pc L st S c1 s1 := by
  subst hn
  intro p e s m args below meth c H locs ls C hX hW hS hl
  exact lv_lload C.1 C.2.1 hd (hl.2.2 _ _ hg) (kk p e s m args below meth c H locs ls C hX hW hS hl)
theorem g_aload_n {k : Fin 4} {x : Nat} (n : Nat) (hd : decode cc pc = .ok (.aload_n k, 1)) (hn : pc + 1 = n) (hg : lg L (k : Nat) = some (.ref x)) (kk : Gj g l R XX QQ own cc nL ret n L (.ref x :: st) S c1 s1) : Gj g l R XX QQ own cc nL ret pc L st S c1 s1 := by
  subst hn
  intro p e s m args below meth c H locs ls C hX hW hS hl
  exact lv_aload_n C.1 C.2.1 hd rfl (hl.2.2 _ _ hg) (kk p e s m args below meth c H locs ls C hX hW hS hl)
theorem g_aload {k : Nat} {x : Nat} (n : Nat) (hd : decode cc pc = .ok (.aload k, 2)) (hn : pc + 2 = n) (hg : lg L k = some (.ref x)) (kk : Gj g l R XX QQ own cc nL ret n L (.ref x :: st) S c1 s1) : Gj g l R XX QQ own cc nL ret pc L st S c1 s1 := by
  subst hn
  intro p e s m args below meth c H locs ls C hX hW hS hl
  exact lv_aload C.1 C.2.1 hd (hl.2.2 _ _ hg) (kk p e s m args below meth c H locs ls C hX hW hS hl)
theorem g_istore_n {k : Fin 4} {x : Int32} (n : Nat) (hd : decode cc pc = .ok (.istore_n k, 1)) (hn : pc + 1 = n) (hb : (k : Nat) < nL) (kk : Gj g l R XX QQ own cc nL ret n (ls1 L k (.int x)) st S c1 s1) : Gj g l R XX QQ own cc nL ret pc L (.int x :: st) S c1 s1 := by
  subst hn
  intro p e s m args below meth c H locs ls C hX hW hS hl
  exact lv_istore_n C.1 C.2.1 hd rfl hl.has hb rfl (fun ls2 h2 => kk p e s m args below meth c H locs ls2 C hX hW hS (lvh.st1 h2))
theorem g_istore {k : Nat} {x : Int32} (n : Nat) (hd : decode cc pc = .ok (.istore k, 2)) (hn : pc + 2 = n) (hb : k < nL) (kk : Gj g l R XX QQ own cc nL ret n (ls1 L k (.int x)) st S c1 s1) : Gj g l R XX QQ own cc nL ret pc L (.int x :: st) S c1 s1 := by
  subst hn
  intro p e s m args below meth c H locs ls C hX hW hS hl
  exact lv_istore C.1 C.2.1 hd hl.has hb rfl (fun ls2 h2 => kk p e s m args below meth c H locs ls2 C hX hW hS (lvh.st1 h2))
theorem g_lstore_n {k : Fin 4} {x : Int64} (n : Nat) (hd : decode cc pc = .ok (.lstore_n k, 1)) (hn : pc + 1 = n) (hb : (k : Nat) + 1 < nL) (kk : Gj g l R XX QQ own cc nL ret n (ls2 L k (.long x)) st S c1 s1) : Gj g l R XX QQ own cc nL ret pc L (.long x :: st) S c1 s1 := by
  subst hn
  intro p e s m args below meth c H locs ls C hX hW hS hl
  exact lv_lstore_n C.1 C.2.1 hd rfl hl.has hb rfl (fun ls2 h2 => kk p e s m args below meth c H locs ls2 C hX hW hS (lvh.st2 h2))
theorem g_lstore {k : Nat} {x : Int64} (n : Nat) (hd : decode cc pc = .ok (.lstore k, 2)) (hn : pc + 2 = n) (hb : k + 1 < nL) (kk : Gj g l R XX QQ own cc nL ret n (ls2 L k (.long x)) st S c1 s1) : Gj g l R XX QQ own cc nL ret pc L (.long x :: st) S c1 s1 := by
  subst hn
  intro p e s m args below meth c H locs ls C hX hW hS hl
  exact lv_lstore C.1 C.2.1 hd hl.has hb rfl (fun ls2 h2 => kk p e s m args below meth c H locs ls2 C hX hW hS (lvh.st2 h2))
theorem g_astore_n {k : Fin 4} {x : Nat} (n : Nat) (hd : decode cc pc = .ok (.astore_n k, 1)) (hn : pc + 1 = n) (hb : (k : Nat) < nL) (kk : Gj g l R XX QQ own cc nL ret n (ls1 L k (.ref x)) st S c1 s1) : Gj g l R XX QQ own cc nL ret pc L (.ref x :: st) S c1 s1 := by
  subst hn
  intro p e s m args below meth c H locs ls C hX hW hS hl
  exact lv_astore_n C.1 C.2.1 hd rfl hl.has hb rfl (fun ls2 h2 => kk p e s m args below meth c H locs ls2 C hX hW hS (lvh.st1 h2))
theorem g_astore {k : Nat} {x : Nat} (n : Nat) (hd : decode cc pc = .ok (.astore k, 2)) (hn : pc + 2 = n) (hb : k < nL) (kk : Gj g l R XX QQ own cc nL ret n (ls1 L k (.ref x)) st S c1 s1) : Gj g l R XX QQ own cc nL ret pc L (.ref x :: st) S c1 s1 := by
  subst hn
  intro p e s m args below meth c H locs ls C hX hW hS hl
  exact lv_astore C.1 C.2.1 hd hl.has hb rfl (fun ls2 h2 => kk p e s m args below meth c H locs ls2 C hX hW hS (lvh.st1 h2))
theorem g_iinc {k : Nat} {i : Int} {x : Int32} (v : Int32) (n : Nat) (hd : decode cc pc = .ok (.iinc k i, 3)) (hn : pc + 3 = n) (hv : Int32.ofInt i = v) (hb : k < nL) (hg : lg L k = some (.int x)) (kk : Gj g l R XX QQ own cc nL ret n (ls1 L k (.int (x + v))) st S c1 s1) : Gj g l R XX QQ own cc nL ret pc L st S c1 s1 := by
  subst hn
  subst hv
  intro p e s m args below meth c H locs ls C hX hW hS hl
  obtain ⟨q, hq⟩ := List.getElem?_of_mem (prs_in (g := g) hg)
  exact lv_iinc C.1 C.2.1 hd hl.has hq rfl hb rfl (fun ls2 h2 => kk p e s m args below meth c H locs ls2 C hX hW hS (lvh.st1 h2))
theorem g_if_eq {x : Int32} {off : Int} (tgt n : Nat) (hd : decode cc pc = .ok (.ifCond .eq off, 3)) (hn : pc + 3 = n) (ht : (pc : Int) + off = (tgt : Int)) (kt : x = 0 → Gj g l R XX QQ own cc nL ret tgt L st S c1 s1) (kf : ¬ x = 0 → Gj g l R XX QQ own cc nL ret n L st S c1 s1) : Gj g l R XX QQ own cc nL ret pc L (.int x :: st) S c1 s1 := by
  subst hn
  intro p e s m args below meth c H locs ls C hX hW hS hl
  exact lv_if_eq C.1 C.2.1 hd ht (fun h => kt h p e s m args below meth c H locs ls C hX hW hS hl) (fun h => kf h p e s m args below meth c H locs ls C hX hW hS hl)
theorem g_if_ne {x : Int32} {off : Int} (tgt n : Nat) (hd : decode cc pc = .ok (.ifCond .ne off, 3)) (hn : pc + 3 = n) (ht : (pc : Int) + off = (tgt : Int)) (kt : ¬ x = 0 → Gj g l R XX QQ own cc nL ret tgt L st S c1 s1) (kf : x = 0 → Gj g l R XX QQ own cc nL ret n L st S c1 s1) : Gj g l R XX QQ own cc nL ret pc L (.int x :: st) S c1 s1 := by
  subst hn
  intro p e s m args below meth c H locs ls C hX hW hS hl
  exact lv_if_ne C.1 C.2.1 hd ht (fun h => kt h p e s m args below meth c H locs ls C hX hW hS hl) (fun h => kf h p e s m args below meth c H locs ls C hX hW hS hl)
theorem g_if_lt {x : Int32} {off : Int} (tgt n : Nat) (hd : decode cc pc = .ok (.ifCond .lt off, 3)) (hn : pc + 3 = n) (ht : (pc : Int) + off = (tgt : Int)) (kt : x < 0 → Gj g l R XX QQ own cc nL ret tgt L st S c1 s1) (kf : ¬ x < 0 → Gj g l R XX QQ own cc nL ret n L st S c1 s1) : Gj g l R XX QQ own cc nL ret pc L (.int x :: st) S c1 s1 := by
  subst hn
  intro p e s m args below meth c H locs ls C hX hW hS hl
  exact lv_if_lt C.1 C.2.1 hd ht (fun h => kt h p e s m args below meth c H locs ls C hX hW hS hl) (fun h => kf h p e s m args below meth c H locs ls C hX hW hS hl)
theorem g_if_ge {x : Int32} {off : Int} (tgt n : Nat) (hd : decode cc pc = .ok (.ifCond .ge off, 3)) (hn : pc + 3 = n) (ht : (pc : Int) + off = (tgt : Int)) (kt : 0 ≤ x → Gj g l R XX QQ own cc nL ret tgt L st S c1 s1) (kf : ¬ 0 ≤ x → Gj g l R XX QQ own cc nL ret n L st S c1 s1) : Gj g l R XX QQ own cc nL ret pc L (.int x :: st) S c1 s1 := by
  subst hn
  intro p e s m args below meth c H locs ls C hX hW hS hl
  exact lv_if_ge C.1 C.2.1 hd ht (fun h => kt h p e s m args below meth c H locs ls C hX hW hS hl) (fun h => kf h p e s m args below meth c H locs ls C hX hW hS hl)
theorem g_if_gt {x : Int32} {off : Int} (tgt n : Nat) (hd : decode cc pc = .ok (.ifCond .gt off, 3)) (hn : pc + 3 = n) (ht : (pc : Int) + off = (tgt : Int)) (kt : 0 < x → Gj g l R XX QQ own cc nL ret tgt L st S c1 s1) (kf : ¬ 0 < x → Gj g l R XX QQ own cc nL ret n L st S c1 s1) : Gj g l R XX QQ own cc nL ret pc L (.int x :: st) S c1 s1 := by
  subst hn
  intro p e s m args below meth c H locs ls C hX hW hS hl
  exact lv_if_gt C.1 C.2.1 hd ht (fun h => kt h p e s m args below meth c H locs ls C hX hW hS hl) (fun h => kf h p e s m args below meth c H locs ls C hX hW hS hl)
theorem g_if_le {x : Int32} {off : Int} (tgt n : Nat) (hd : decode cc pc = .ok (.ifCond .le off, 3)) (hn : pc + 3 = n) (ht : (pc : Int) + off = (tgt : Int)) (kt : x ≤ 0 → Gj g l R XX QQ own cc nL ret tgt L st S c1 s1) (kf : ¬ x ≤ 0 → Gj g l R XX QQ own cc nL ret n L st S c1 s1) : Gj g l R XX QQ own cc nL ret pc L (.int x :: st) S c1 s1 := by
  subst hn
  intro p e s m args below meth c H locs ls C hX hW hS hl
  exact lv_if_le C.1 C.2.1 hd ht (fun h => kt h p e s m args below meth c H locs ls C hX hW hS hl) (fun h => kf h p e s m args below meth c H locs ls C hX hW hS hl)
theorem g_icmp_eq {x y : Int32} {off : Int} (tgt n : Nat) (hd : decode cc pc = .ok (.if_icmp .eq off, 3)) (hn : pc + 3 = n) (ht : (pc : Int) + off = (tgt : Int)) (kt : x = y → Gj g l R XX QQ own cc nL ret tgt L st S c1 s1) (kf : ¬ x = y → Gj g l R XX QQ own cc nL ret n L st S c1 s1) : Gj g l R XX QQ own cc nL ret pc L (.int y :: .int x :: st) S c1 s1 := by
  subst hn
  intro p e s m args below meth c H locs ls C hX hW hS hl
  exact lv_icmp_eq C.1 C.2.1 hd ht (fun h => kt h p e s m args below meth c H locs ls C hX hW hS hl) (fun h => kf h p e s m args below meth c H locs ls C hX hW hS hl)
theorem g_icmp_ne {x y : Int32} {off : Int} (tgt n : Nat) (hd : decode cc pc = .ok (.if_icmp .ne off, 3)) (hn : pc + 3 = n) (ht : (pc : Int) + off = (tgt : Int)) (kt : ¬ x = y → Gj g l R XX QQ own cc nL ret tgt L st S c1 s1) (kf : x = y → Gj g l R XX QQ own cc nL ret n L st S c1 s1) : Gj g l R XX QQ own cc nL ret pc L (.int y :: .int x :: st) S c1 s1 := by
  subst hn
  intro p e s m args below meth c H locs ls C hX hW hS hl
  exact lv_icmp_ne C.1 C.2.1 hd ht (fun h => kt h p e s m args below meth c H locs ls C hX hW hS hl) (fun h => kf h p e s m args below meth c H locs ls C hX hW hS hl)
theorem g_icmp_lt {x y : Int32} {off : Int} (tgt n : Nat) (hd : decode cc pc = .ok (.if_icmp .lt off, 3)) (hn : pc + 3 = n) (ht : (pc : Int) + off = (tgt : Int)) (kt : x < y → Gj g l R XX QQ own cc nL ret tgt L st S c1 s1) (kf : ¬ x < y → Gj g l R XX QQ own cc nL ret n L st S c1 s1) : Gj g l R XX QQ own cc nL ret pc L (.int y :: .int x :: st) S c1 s1 := by
  subst hn
  intro p e s m args below meth c H locs ls C hX hW hS hl
  exact lv_icmp_lt C.1 C.2.1 hd ht (fun h => kt h p e s m args below meth c H locs ls C hX hW hS hl) (fun h => kf h p e s m args below meth c H locs ls C hX hW hS hl)
theorem g_icmp_ge {x y : Int32} {off : Int} (tgt n : Nat) (hd : decode cc pc = .ok (.if_icmp .ge off, 3)) (hn : pc + 3 = n) (ht : (pc : Int) + off = (tgt : Int)) (kt : y ≤ x → Gj g l R XX QQ own cc nL ret tgt L st S c1 s1) (kf : ¬ y ≤ x → Gj g l R XX QQ own cc nL ret n L st S c1 s1) : Gj g l R XX QQ own cc nL ret pc L (.int y :: .int x :: st) S c1 s1 := by
  subst hn
  intro p e s m args below meth c H locs ls C hX hW hS hl
  exact lv_icmp_ge C.1 C.2.1 hd ht (fun h => kt h p e s m args below meth c H locs ls C hX hW hS hl) (fun h => kf h p e s m args below meth c H locs ls C hX hW hS hl)
theorem g_icmp_gt {x y : Int32} {off : Int} (tgt n : Nat) (hd : decode cc pc = .ok (.if_icmp .gt off, 3)) (hn : pc + 3 = n) (ht : (pc : Int) + off = (tgt : Int)) (kt : y < x → Gj g l R XX QQ own cc nL ret tgt L st S c1 s1) (kf : ¬ y < x → Gj g l R XX QQ own cc nL ret n L st S c1 s1) : Gj g l R XX QQ own cc nL ret pc L (.int y :: .int x :: st) S c1 s1 := by
  subst hn
  intro p e s m args below meth c H locs ls C hX hW hS hl
  exact lv_icmp_gt C.1 C.2.1 hd ht (fun h => kt h p e s m args below meth c H locs ls C hX hW hS hl) (fun h => kf h p e s m args below meth c H locs ls C hX hW hS hl)
theorem g_icmp_le {x y : Int32} {off : Int} (tgt n : Nat) (hd : decode cc pc = .ok (.if_icmp .le off, 3)) (hn : pc + 3 = n) (ht : (pc : Int) + off = (tgt : Int)) (kt : x ≤ y → Gj g l R XX QQ own cc nL ret tgt L st S c1 s1) (kf : ¬ x ≤ y → Gj g l R XX QQ own cc nL ret n L st S c1 s1) : Gj g l R XX QQ own cc nL ret pc L (.int y :: .int x :: st) S c1 s1 := by
  subst hn
  intro p e s m args below meth c H locs ls C hX hW hS hl
  exact lv_icmp_le C.1 C.2.1 hd ht (fun h => kt h p e s m args below meth c H locs ls C hX hW hS hl) (fun h => kf h p e s m args below meth c H locs ls C hX hW hS hl)
theorem g_goto {off : Int} (tgt : Nat) (hd : decode cc pc = .ok (.goto off, 3)) (ht : (pc : Int) + off = (tgt : Int)) (kk : Gj g l R XX QQ own cc nL ret tgt L st S c1 s1) : Gj g l R XX QQ own cc nL ret pc L st S c1 s1 := by
  intro p e s m args below meth c H locs ls C hX hW hS hl
  exact lv_goto C.1 C.2.1 hd ht (kk p e s m args below meth c H locs ls C hX hW hS hl)
theorem g_tsIn {dflt lo hi : Int} {offs : Array Int} {len : Nat} {x : Int32} {off : Int} (tgt : Nat) (hd : decode cc pc = .ok (.tableswitch dflt lo hi offs, len)) (h1 : ¬ x.toInt < lo) (h2 : ¬ hi < x.toInt) (ho : offs[(x.toInt - lo).toNat]? = some off) (ht : (pc : Int) + off = (tgt : Int)) (kk : Gj g l R XX QQ own cc nL ret tgt L st S c1 s1) : Gj g l R XX QQ own cc nL ret pc L (.int x :: st) S c1 s1 := by
  intro p e s m args below meth c H locs ls C hX hW hS hl
  exact lv_tableIn C.1 C.2.1 hd h1 h2 ho ht (kk p e s m args below meth c H locs ls C hX hW hS hl)
theorem g_tsOut {dflt lo hi : Int} {offs : Array Int} {len : Nat} {x : Int32} (tgt : Nat) (hd : decode cc pc = .ok (.tableswitch dflt lo hi offs, len)) (h : x.toInt < lo ∨ hi < x.toInt) (ht : (pc : Int) + dflt = (tgt : Int)) (kk : Gj g l R XX QQ own cc nL ret tgt L st S c1 s1) : Gj g l R XX QQ own cc nL ret pc L (.int x :: st) S c1 s1 := by
  intro p e s m args below meth c H locs ls C hX hW hS hl
  exact lv_tableOut C.1 C.2.1 hd h ht (kk p e s m args below meth c H locs ls C hX hW hS hl)
theorem g_lookup {dflt : Int} {ps : Array (Int × Int)} {len : Nat} {x : Int32} {off : Int} (tgt : Nat) (hd : decode cc pc = .ok (.lookupswitch dflt ps, len)) (hp : (ps.toList.zip (ps.toList.drop 1)).all (fun (a, next) => a.1 < next.1) = true) (ho : Op.lookupswitch.offset ps.toList dflt x.toInt = off) (ht : (pc : Int) + off = (tgt : Int)) (kk : Gj g l R XX QQ own cc nL ret tgt L st S c1 s1) : Gj g l R XX QQ own cc nL ret pc L (.int x :: st) S c1 s1 := by
  intro p e s m args below meth c H locs ls C hX hW hS hl
  exact lv_lookup C.1 C.2.1 hd hp ho ht (kk p e s m args below meth c H locs ls C hX hW hS hl)
theorem lc_eq {x y : Int64} : lg_cmp x y = 0 ↔ x = y := by
  unfold lg_cmp
  by_cases h : x > y
  · rw [if_pos h]
    constructor
    · intro z; exact absurd z (by decide)
    · intro z; subst z; exact absurd h (Int64.lt_irrefl)
  · rw [if_neg h]
    by_cases e : x = y
    · rw [if_pos e]; exact ⟨fun _ => e, fun _ => rfl⟩
    · rw [if_neg e]
      constructor
      · intro z; exact absurd z (by decide)
      · intro z; exact absurd z e
theorem g_lc_eq {x y : Int64} {off : Int} (tgt n : Nat) (hd1 : decode cc pc = .ok (.lcmp, 1)) (hd : decode cc (pc + 1) = .ok (.ifCond .eq off, 3)) (hn : pc + 4 = n) (ht : ((pc + 1 : Nat) : Int) + off = (tgt : Int)) (kt : x = y → Gj g l R XX QQ own cc nL ret tgt L st S c1 s1) (kf : ¬ x = y → Gj g l R XX QQ own cc nL ret n L st S c1 s1) : Gj g l R XX QQ own cc nL ret pc L (.long y :: .long x :: st) S c1 s1 := by
  refine g_lcmp (pc + 1) hd1 rfl ?_
  exact g_if_eq tgt n hd (by omega) ht (fun h => kt (lc_eq.mp h)) (fun h => kf (fun z => h (lc_eq.mpr z)))
theorem g_lc_ne {x y : Int64} {off : Int} (tgt n : Nat) (hd1 : decode cc pc = .ok (.lcmp, 1)) (hd : decode cc (pc + 1) = .ok (.ifCond .ne off, 3)) (hn : pc + 4 = n) (ht : ((pc + 1 : Nat) : Int) + off = (tgt : Int)) (kt : ¬ x = y → Gj g l R XX QQ own cc nL ret tgt L st S c1 s1) (kf : x = y → Gj g l R XX QQ own cc nL ret n L st S c1 s1) : Gj g l R XX QQ own cc nL ret pc L (.long y :: .long x :: st) S c1 s1 := by
  refine g_lcmp (pc + 1) hd1 rfl ?_
  exact g_if_ne tgt n hd (by omega) ht (fun h => kt (fun z => h (lc_eq.mpr z))) (fun h => kf (lc_eq.mp h))
end RULES
section RETS
variable {g : Gl} {l : Launch} {R : Room} {XX : State → Method → Prop} {own : String} {cc : ByteArray} {nL : Nat} {pc : Nat} {L : List (Option Value)} {S : Sg} {c1 s1 : Nat} {Z : Option Value → Sg → Prop}
theorem g_iret {x : Int32} (hd : decode cc pc = .ok (.ireturn, 1)) (hz : Z (some (.int x)) S) : Gj g l R XX (QM g Z c1 s1) own cc nL (some .int) pc L ([.int x]) S c1 s1 := by
  intro p e s m args below meth c H locs ls C hX hW hS hl
  exact W.iret C.1 C.2.1 C.2.2.2.1 (fun t ht hw => ⟨⟨some (.int x), S, rfl, hz, by rw [ht]; exact hW⟩, hS.F ht⟩) hS.2.2 hd C.2.2.2.2.2.1
theorem g_zret {x : Int32} {ty : FieldType} (hd : decode cc pc = .ok (.ireturn, 1)) (hn : narrow ty (.int x) = .int x) (hz : Z (some (.int x)) S) : Gj g l R XX (QM g Z c1 s1) own cc nL (some ty) pc L [.int x] S c1 s1 := by
  intro p e s m args below meth c H locs ls C hX hW hS hl
  exact W.zret C.1 C.2.1 C.2.2.2.1 hn (fun t ht hw => ⟨⟨some (.int x), S, rfl, hz, by rw [ht]; exact hW⟩, hS.F ht⟩) hS.2.2 hd C.2.2.2.2.2.1
theorem g_lret {x : Int64} (hd : decode cc pc = .ok (.lreturn, 1)) (hz : Z (some (.long x)) S) : Gj g l R XX (QM g Z c1 s1) own cc nL (some .long) pc L ([.long x]) S c1 s1 := by
  intro p e s m args below meth c H locs ls C hX hW hS hl
  exact W.lret C.1 C.2.1 C.2.2.2.1 (fun t ht hw => ⟨⟨some (.long x), S, rfl, hz, by rw [ht]; exact hW⟩, hS.F ht⟩) hS.2.2 hd C.2.2.2.2.2.1
theorem g_vret  (hd : decode cc pc = .ok (.return_, 1)) (hz : Z (none) S) : Gj g l R XX (QM g Z c1 s1) own cc nL (none) pc L ([]) S c1 s1 := by
  intro p e s m args below meth c H locs ls C hX hW hS hl
  exact W.vret C.1 C.2.1 C.2.2.2.1 (fun t ht hw => ⟨⟨none, S, rfl, hz, by rw [ht]; exact hW⟩, hS.F ht⟩) hS.2.2 hd C.2.2.2.2.2.1
theorem g_aret {k : Nat} {C0 : String} (hd : decode cc pc = .ok (.areturn, 1)) (hz : Z (some (.ref k)) S) : Gj g l R XX (QM g Z c1 s1) own cc nL (some (.object C0)) pc L [.ref k] S c1 s1 := by
  intro p e s m args below meth c H locs ls C hX hW hS hl
  exact W.aret C.1 C.2.1 C.2.2.2.1 (Or.inl ⟨_, rfl⟩) (Or.inr ⟨_, rfl⟩) (fun t ht hw => ⟨⟨some (.ref k), S, rfl, hz, by rw [ht]; exact hW⟩, hS.F ht⟩) hS.2.2 hd C.2.2.2.2.2.1
theorem nz_b {x : Int32} (h : x = 0 ∨ x = 1) : narrow .boolean (.int x) = .int x := by rcases h with rfl | rfl <;> decide
end RETS
