section DKR
variable {d : Nat} {μ : dk_Mt} {pc n : Nat} {L : List (Option Value)} {st : List Value} {M : dk_Mem} {Q : Option Value → dk_Mem → Prop}
theorem dk_W.mono {Q' : Option Value → dk_Mem → Prop} (h : ∀ v M', Q v M' → Q' v M') (k : dk_W d μ pc L st M Q) : dk_W d μ pc L st M Q' :=
  fun p l e R s m args below meth c H locs cells slots Z ls ad ca G A C hL hW hK => k p l e R s m args below meth c H locs cells slots Z ls ad ca G A C hL hW (fun v M' H' locs' hq => hK v M' H' locs' (h v M' hq))
theorem w_eq {L' : List (Option Value)} {st' : List Value} {M' : dk_Mem} (h1 : L = L') (h2 : st = st') (h3 : M = M') (k : dk_W d μ pc L' st' M' Q) : dk_W d μ pc L st M Q := by subst h1; subst h2; subst h3; exact k
theorem w_iconst {i : Int} (v : Int32) (hd : decode μ.2.1 pc = .ok (.iconst i, 1)) (hv : Int32.ofInt i = v) (hn : pc + 1 = n) (k : dk_W d μ n L (.int v :: st) M Q) : dk_W d μ pc L (st) M Q := by
  subst hn
  exact fun p l e R s m args below meth c H locs cells slots Z ls ad ca G A C hL hW hK => lv_iconst (v := v) C.1 C.2.1 hd hv (k p l e R s m args below meth c H locs cells slots Z ls ad ca G A C hL hW hK)
theorem w_bipush {i : Int} (v : Int32) (hd : decode μ.2.1 pc = .ok (.bipush i, 2)) (hv : (Int8.ofInt i).toInt32 = v) (hn : pc + 2 = n) (k : dk_W d μ n L (.int v :: st) M Q) : dk_W d μ pc L (st) M Q := by
  subst hn
  exact fun p l e R s m args below meth c H locs cells slots Z ls ad ca G A C hL hW hK => lv_bipush (v := v) C.1 C.2.1 hd hv (k p l e R s m args below meth c H locs cells slots Z ls ad ca G A C hL hW hK)
theorem w_sipush {i : Int} (v : Int32) (hd : decode μ.2.1 pc = .ok (.sipush i, 3)) (hv : (Int16.ofInt i).toInt32 = v) (hn : pc + 3 = n) (k : dk_W d μ n L (.int v :: st) M Q) : dk_W d μ pc L (st) M Q := by
  subst hn
  exact fun p l e R s m args below meth c H locs cells slots Z ls ad ca G A C hL hW hK => lv_sipush (v := v) C.1 C.2.1 hd hv (k p l e R s m args below meth c H locs cells slots Z ls ad ca G A C hL hW hK)
theorem w_lconst {i : Fin 2} (v : Int64) (hd : decode μ.2.1 pc = .ok (.lconst i, 1)) (hv : Int64.ofNat (i : Nat) = v) (hn : pc + 1 = n) (k : dk_W d μ n L (.long v :: st) M Q) : dk_W d μ pc L (st) M Q := by
  subst hn
  exact fun p l e R s m args below meth c H locs cells slots Z ls ad ca G A C hL hW hK => lv_lconst (v := v) C.1 C.2.1 hd hv (k p l e R s m args below meth c H locs cells slots Z ls ad ca G A C hL hW hK)
theorem w_ldc {i : Nat} {v : Int32} (hc : Cond.constant μ.1.cls i v ∈ dk_T) (hd : decode μ.2.1 pc = .ok (.ldc i, 2)) (hn : pc + 2 = n) (k : dk_W d μ n L (.int v :: st) M Q) : dk_W d μ pc L (st) M Q := by
  subst hn
  exact fun p l e R s m args below meth c H locs cells slots Z ls ad ca G A C hL hW hK => lv_ldc C.1 C.2.1 C.2.2.2.1 (C.2.2.2.2.1 _ hc) hd (k p l e R s m args below meth c H locs cells slots Z ls ad ca G A C hL hW hK)
theorem w_ldcw {i : Nat} {v : Int32} (hc : Cond.constant μ.1.cls i v ∈ dk_T) (hd : decode μ.2.1 pc = .ok (.ldc_w i, 3)) (hn : pc + 3 = n) (k : dk_W d μ n L (.int v :: st) M Q) : dk_W d μ pc L (st) M Q := by
  subst hn
  exact fun p l e R s m args below meth c H locs cells slots Z ls ad ca G A C hL hW hK => lv_ldcw C.1 C.2.1 C.2.2.2.1 (C.2.2.2.2.1 _ hc) hd (k p l e R s m args below meth c H locs cells slots Z ls ad ca G A C hL hW hK)
theorem w_ldc2 {i : Nat} {v : Int64} (hc : Cond.constantLong μ.1.cls i v ∈ dk_T) (hd : decode μ.2.1 pc = .ok (.ldc2_w i, 3)) (hn : pc + 3 = n) (k : dk_W d μ n L (.long v :: st) M Q) : dk_W d μ pc L (st) M Q := by
  subst hn
  exact fun p l e R s m args below meth c H locs cells slots Z ls ad ca G A C hL hW hK => lv_ldc2 C.1 C.2.1 C.2.2.2.1 (C.2.2.2.2.1 _ hc) hd (k p l e R s m args below meth c H locs cells slots Z ls ad ca G A C hL hW hK)
theorem w_null  (hd : decode μ.2.1 pc = .ok (.aconst_null, 1)) (hn : pc + 1 = n) (k : dk_W d μ n L (.null :: st) M Q) : dk_W d μ pc L (st) M Q := by
  subst hn
  exact fun p l e R s m args below meth c H locs cells slots Z ls ad ca G A C hL hW hK => lv_null C.1 C.2.1 hd (k p l e R s m args below meth c H locs cells slots Z ls ad ca G A C hL hW hK)
theorem w_iadd {x y : Int32} (hd : decode μ.2.1 pc = .ok (.iadd, 1)) (hn : pc + 1 = n) (k : dk_W d μ n L (.int (x + y) :: st) M Q) : dk_W d μ pc L (.int y :: .int x :: st) M Q := by
  subst hn
  exact fun p l e R s m args below meth c H locs cells slots Z ls ad ca G A C hL hW hK => lv_iadd C.1 C.2.1 hd (k p l e R s m args below meth c H locs cells slots Z ls ad ca G A C hL hW hK)
theorem w_isub {x y : Int32} (hd : decode μ.2.1 pc = .ok (.isub, 1)) (hn : pc + 1 = n) (k : dk_W d μ n L (.int (x - y) :: st) M Q) : dk_W d μ pc L (.int y :: .int x :: st) M Q := by
  subst hn
  exact fun p l e R s m args below meth c H locs cells slots Z ls ad ca G A C hL hW hK => lv_isub C.1 C.2.1 hd (k p l e R s m args below meth c H locs cells slots Z ls ad ca G A C hL hW hK)
theorem w_imul {x y : Int32} (hd : decode μ.2.1 pc = .ok (.imul, 1)) (hn : pc + 1 = n) (k : dk_W d μ n L (.int (x * y) :: st) M Q) : dk_W d μ pc L (.int y :: .int x :: st) M Q := by
  subst hn
  exact fun p l e R s m args below meth c H locs cells slots Z ls ad ca G A C hL hW hK => lv_imul C.1 C.2.1 hd (k p l e R s m args below meth c H locs cells slots Z ls ad ca G A C hL hW hK)
theorem w_iand {x y : Int32} (hd : decode μ.2.1 pc = .ok (.iand, 1)) (hn : pc + 1 = n) (k : dk_W d μ n L (.int (x &&& y) :: st) M Q) : dk_W d μ pc L (.int y :: .int x :: st) M Q := by
  subst hn
  exact fun p l e R s m args below meth c H locs cells slots Z ls ad ca G A C hL hW hK => lv_iand C.1 C.2.1 hd (k p l e R s m args below meth c H locs cells slots Z ls ad ca G A C hL hW hK)
theorem w_ior {x y : Int32} (hd : decode μ.2.1 pc = .ok (.ior, 1)) (hn : pc + 1 = n) (k : dk_W d μ n L (.int (x ||| y) :: st) M Q) : dk_W d μ pc L (.int y :: .int x :: st) M Q := by
  subst hn
  exact fun p l e R s m args below meth c H locs cells slots Z ls ad ca G A C hL hW hK => lv_ior C.1 C.2.1 hd (k p l e R s m args below meth c H locs cells slots Z ls ad ca G A C hL hW hK)
theorem w_ixor {x y : Int32} (hd : decode μ.2.1 pc = .ok (.ixor, 1)) (hn : pc + 1 = n) (k : dk_W d μ n L (.int (x ^^^ y) :: st) M Q) : dk_W d μ pc L (.int y :: .int x :: st) M Q := by
  subst hn
  exact fun p l e R s m args below meth c H locs cells slots Z ls ad ca G A C hL hW hK => lv_ixor C.1 C.2.1 hd (k p l e R s m args below meth c H locs cells slots Z ls ad ca G A C hL hW hK)
theorem w_ishl {x y : Int32} (hd : decode μ.2.1 pc = .ok (.ishl, 1)) (hn : pc + 1 = n) (k : dk_W d μ n L (.int (x <<< (y &&& 31)) :: st) M Q) : dk_W d μ pc L (.int y :: .int x :: st) M Q := by
  subst hn
  exact fun p l e R s m args below meth c H locs cells slots Z ls ad ca G A C hL hW hK => lv_ishl C.1 C.2.1 hd (k p l e R s m args below meth c H locs cells slots Z ls ad ca G A C hL hW hK)
theorem w_ishr {x y : Int32} (hd : decode μ.2.1 pc = .ok (.ishr, 1)) (hn : pc + 1 = n) (k : dk_W d μ n L (.int (x >>> (y &&& 31)) :: st) M Q) : dk_W d μ pc L (.int y :: .int x :: st) M Q := by
  subst hn
  exact fun p l e R s m args below meth c H locs cells slots Z ls ad ca G A C hL hW hK => lv_ishr C.1 C.2.1 hd (k p l e R s m args below meth c H locs cells slots Z ls ad ca G A C hL hW hK)
theorem w_iushr {x y : Int32} (hd : decode μ.2.1 pc = .ok (.iushr, 1)) (hn : pc + 1 = n) (k : dk_W d μ n L (.int ((x.toUInt32 >>> (y.toUInt32 &&& Int32.toUInt32 31)).toInt32) :: st) M Q) : dk_W d μ pc L (.int y :: .int x :: st) M Q := by
  subst hn
  exact fun p l e R s m args below meth c H locs cells slots Z ls ad ca G A C hL hW hK => lv_iushr C.1 C.2.1 hd rfl (k p l e R s m args below meth c H locs cells slots Z ls ad ca G A C hL hW hK)
theorem w_idiv {x y : Int32} (hne : ¬ y = 0) (hd : decode μ.2.1 pc = .ok (.idiv, 1)) (hn : pc + 1 = n) (k : dk_W d μ n L (.int (x / y) :: st) M Q) : dk_W d μ pc L (.int y :: .int x :: st) M Q := by
  subst hn
  exact fun p l e R s m args below meth c H locs cells slots Z ls ad ca G A C hL hW hK => lv_idiv C.1 C.2.1 hd hne (k p l e R s m args below meth c H locs cells slots Z ls ad ca G A C hL hW hK)
theorem w_irem {x y : Int32} (hne : ¬ y = 0) (hd : decode μ.2.1 pc = .ok (.irem, 1)) (hn : pc + 1 = n) (k : dk_W d μ n L (.int (x - x / y * y) :: st) M Q) : dk_W d μ pc L (.int y :: .int x :: st) M Q := by
  subst hn
  exact fun p l e R s m args below meth c H locs cells slots Z ls ad ca G A C hL hW hK => lv_irem C.1 C.2.1 hd hne (k p l e R s m args below meth c H locs cells slots Z ls ad ca G A C hL hW hK)
theorem w_ineg {x : Int32} (hd : decode μ.2.1 pc = .ok (.ineg, 1)) (hn : pc + 1 = n) (k : dk_W d μ n L (.int (-x) :: st) M Q) : dk_W d μ pc L (.int x :: st) M Q := by
  subst hn
  exact fun p l e R s m args below meth c H locs cells slots Z ls ad ca G A C hL hW hK => lv_ineg C.1 C.2.1 hd (k p l e R s m args below meth c H locs cells slots Z ls ad ca G A C hL hW hK)
theorem w_ladd {x y : Int64} (hd : decode μ.2.1 pc = .ok (.ladd, 1)) (hn : pc + 1 = n) (k : dk_W d μ n L (.long (x + y) :: st) M Q) : dk_W d μ pc L (.long y :: .long x :: st) M Q := by
  subst hn
  exact fun p l e R s m args below meth c H locs cells slots Z ls ad ca G A C hL hW hK => lv_ladd C.1 C.2.1 hd (k p l e R s m args below meth c H locs cells slots Z ls ad ca G A C hL hW hK)
theorem w_land {x y : Int64} (hd : decode μ.2.1 pc = .ok (.land, 1)) (hn : pc + 1 = n) (k : dk_W d μ n L (.long (x &&& y) :: st) M Q) : dk_W d μ pc L (.long y :: .long x :: st) M Q := by
  subst hn
  exact fun p l e R s m args below meth c H locs cells slots Z ls ad ca G A C hL hW hK => lv_land C.1 C.2.1 hd (k p l e R s m args below meth c H locs cells slots Z ls ad ca G A C hL hW hK)
theorem w_lor {x y : Int64} (hd : decode μ.2.1 pc = .ok (.lor, 1)) (hn : pc + 1 = n) (k : dk_W d μ n L (.long (x ||| y) :: st) M Q) : dk_W d μ pc L (.long y :: .long x :: st) M Q := by
  subst hn
  exact fun p l e R s m args below meth c H locs cells slots Z ls ad ca G A C hL hW hK => lv_lor C.1 C.2.1 hd (k p l e R s m args below meth c H locs cells slots Z ls ad ca G A C hL hW hK)
theorem w_lshl {x : Int64} {y : Int32} (hd : decode μ.2.1 pc = .ok (.lshl, 1)) (hn : pc + 1 = n) (k : dk_W d μ n L (.long (x <<< (y.toInt64 &&& 63)) :: st) M Q) : dk_W d μ pc L (.int y :: .long x :: st) M Q := by
  subst hn
  exact fun p l e R s m args below meth c H locs cells slots Z ls ad ca G A C hL hW hK => lv_lshl C.1 C.2.1 hd rfl (k p l e R s m args below meth c H locs cells slots Z ls ad ca G A C hL hW hK)
theorem w_lshr {x : Int64} {y : Int32} (hd : decode μ.2.1 pc = .ok (.lshr, 1)) (hn : pc + 1 = n) (k : dk_W d μ n L (.long (x >>> (y.toInt64 &&& 63)) :: st) M Q) : dk_W d μ pc L (.int y :: .long x :: st) M Q := by
  subst hn
  exact fun p l e R s m args below meth c H locs cells slots Z ls ad ca G A C hL hW hK => lv_lshr C.1 C.2.1 hd rfl (k p l e R s m args below meth c H locs cells slots Z ls ad ca G A C hL hW hK)
theorem w_lcmp {x y : Int64} (hd : decode μ.2.1 pc = .ok (.lcmp, 1)) (hn : pc + 1 = n) (k : dk_W d μ n L (.int (lg_cmp x y) :: st) M Q) : dk_W d μ pc L (.long y :: .long x :: st) M Q := by
  subst hn
  exact fun p l e R s m args below meth c H locs cells slots Z ls ad ca G A C hL hW hK => W.lcmp C.1 C.2.1 hd (k p l e R s m args below meth c H locs cells slots Z ls ad ca G A C hL hW hK)
theorem w_i2l {x : Int32} (hd : decode μ.2.1 pc = .ok (.i2l, 1)) (hn : pc + 1 = n) (k : dk_W d μ n L (.long (x.toInt64) :: st) M Q) : dk_W d μ pc L (.int x :: st) M Q := by
  subst hn
  exact fun p l e R s m args below meth c H locs cells slots Z ls ad ca G A C hL hW hK => lv_i2l C.1 C.2.1 hd rfl (k p l e R s m args below meth c H locs cells slots Z ls ad ca G A C hL hW hK)
theorem w_l2i {x : Int64} (hd : decode μ.2.1 pc = .ok (.l2i, 1)) (hn : pc + 1 = n) (k : dk_W d μ n L (.int (x.toInt32) :: st) M Q) : dk_W d μ pc L (.long x :: st) M Q := by
  subst hn
  exact fun p l e R s m args below meth c H locs cells slots Z ls ad ca G A C hL hW hK => lv_l2i C.1 C.2.1 hd rfl (k p l e R s m args below meth c H locs cells slots Z ls ad ca G A C hL hW hK)
theorem w_i2b {x : Int32} (hd : decode μ.2.1 pc = .ok (.i2b, 1)) (hn : pc + 1 = n) (k : dk_W d μ n L (.int (x.toInt8.toInt32) :: st) M Q) : dk_W d μ pc L (.int x :: st) M Q := by
  subst hn
  exact fun p l e R s m args below meth c H locs cells slots Z ls ad ca G A C hL hW hK => lv_i2b C.1 C.2.1 hd rfl (k p l e R s m args below meth c H locs cells slots Z ls ad ca G A C hL hW hK)
theorem w_i2s {x : Int32} (hd : decode μ.2.1 pc = .ok (.i2s, 1)) (hn : pc + 1 = n) (k : dk_W d μ n L (.int (x.toInt16.toInt32) :: st) M Q) : dk_W d μ pc L (.int x :: st) M Q := by
  subst hn
  exact fun p l e R s m args below meth c H locs cells slots Z ls ad ca G A C hL hW hK => lv_i2s C.1 C.2.1 hd rfl (k p l e R s m args below meth c H locs cells slots Z ls ad ca G A C hL hW hK)
theorem w_i2c {x : Int32} (hd : decode μ.2.1 pc = .ok (.i2c, 1)) (hn : pc + 1 = n) (k : dk_W d μ n L (.int ((x.toUInt32 % 65536).toInt32) :: st) M Q) : dk_W d μ pc L (.int x :: st) M Q := by
  subst hn
  exact fun p l e R s m args below meth c H locs cells slots Z ls ad ca G A C hL hW hK => lv_i2c C.1 C.2.1 hd rfl (k p l e R s m args below meth c H locs cells slots Z ls ad ca G A C hL hW hK)
theorem w_dup {v : Value} (hv : v.category = 1) (hd : decode μ.2.1 pc = .ok (.dup, 1)) (hn : pc + 1 = n) (k : dk_W d μ n L (v :: v :: st) M Q) : dk_W d μ pc L (v :: st) M Q := by
  subst hn
  exact fun p l e R s m args below meth c H locs cells slots Z ls ad ca G A C hL hW hK => lv_dup C.1 C.2.1 hd ((dk_rv_cat ad v).trans hv) (k p l e R s m args below meth c H locs cells slots Z ls ad ca G A C hL hW hK)
theorem w_pop {v : Value} (hv : v.category = 1) (hd : decode μ.2.1 pc = .ok (.pop, 1)) (hn : pc + 1 = n) (k : dk_W d μ n L (st) M Q) : dk_W d μ pc L (v :: st) M Q := by
  subst hn
  exact fun p l e R s m args below meth c H locs cells slots Z ls ad ca G A C hL hW hK => lv_pop C.1 C.2.1 hd ((dk_rv_cat ad v).trans hv) (k p l e R s m args below meth c H locs cells slots Z ls ad ca G A C hL hW hK)
theorem w_dup2 {v u : Value} (hv : v.category = 1) (hu : u.category = 1) (hd : decode μ.2.1 pc = .ok (.dup2, 1)) (hn : pc + 1 = n) (k : dk_W d μ n L (v :: u :: v :: u :: st) M Q) : dk_W d μ pc L (v :: u :: st) M Q := by
  subst hn
  exact fun p l e R s m args below meth c H locs cells slots Z ls ad ca G A C hL hW hK => lv_dup2_11 C.1 C.2.1 hd ((dk_rv_cat ad v).trans hv) ((dk_rv_cat ad u).trans hu) (k p l e R s m args below meth c H locs cells slots Z ls ad ca G A C hL hW hK)
theorem w_if_eq {x : Int32} {off : Int} (tgt : Nat) (hd : decode μ.2.1 pc = .ok (.ifCond .eq off, 3)) (ht : (pc : Int) + off = (tgt : Int)) (hn : pc + 3 = n) (kt : x = 0 → dk_W d μ tgt L st M Q) (kf : ¬ x = 0 → dk_W d μ n L st M Q) : dk_W d μ pc L (.int x :: st) M Q := by
  subst hn
  exact fun p l e R s m args below meth c H locs cells slots Z ls ad ca G A C hL hW hK => lv_if_eq (tgt := tgt) C.1 C.2.1 hd ht (fun h => (kt h p l e R s m args below meth c H locs cells slots Z ls ad ca G A C hL hW hK)) (fun h => (kf h p l e R s m args below meth c H locs cells slots Z ls ad ca G A C hL hW hK))
theorem w_if_ne {x : Int32} {off : Int} (tgt : Nat) (hd : decode μ.2.1 pc = .ok (.ifCond .ne off, 3)) (ht : (pc : Int) + off = (tgt : Int)) (hn : pc + 3 = n) (kt : ¬ x = 0 → dk_W d μ tgt L st M Q) (kf : x = 0 → dk_W d μ n L st M Q) : dk_W d μ pc L (.int x :: st) M Q := by
  subst hn
  exact fun p l e R s m args below meth c H locs cells slots Z ls ad ca G A C hL hW hK => lv_if_ne (tgt := tgt) C.1 C.2.1 hd ht (fun h => (kt h p l e R s m args below meth c H locs cells slots Z ls ad ca G A C hL hW hK)) (fun h => (kf h p l e R s m args below meth c H locs cells slots Z ls ad ca G A C hL hW hK))
theorem w_if_lt {x : Int32} {off : Int} (tgt : Nat) (hd : decode μ.2.1 pc = .ok (.ifCond .lt off, 3)) (ht : (pc : Int) + off = (tgt : Int)) (hn : pc + 3 = n) (kt : x < 0 → dk_W d μ tgt L st M Q) (kf : ¬ x < 0 → dk_W d μ n L st M Q) : dk_W d μ pc L (.int x :: st) M Q := by
  subst hn
  exact fun p l e R s m args below meth c H locs cells slots Z ls ad ca G A C hL hW hK => lv_if_lt (tgt := tgt) C.1 C.2.1 hd ht (fun h => (kt h p l e R s m args below meth c H locs cells slots Z ls ad ca G A C hL hW hK)) (fun h => (kf h p l e R s m args below meth c H locs cells slots Z ls ad ca G A C hL hW hK))
theorem w_if_ge {x : Int32} {off : Int} (tgt : Nat) (hd : decode μ.2.1 pc = .ok (.ifCond .ge off, 3)) (ht : (pc : Int) + off = (tgt : Int)) (hn : pc + 3 = n) (kt : 0 ≤ x → dk_W d μ tgt L st M Q) (kf : ¬ 0 ≤ x → dk_W d μ n L st M Q) : dk_W d μ pc L (.int x :: st) M Q := by
  subst hn
  exact fun p l e R s m args below meth c H locs cells slots Z ls ad ca G A C hL hW hK => lv_if_ge (tgt := tgt) C.1 C.2.1 hd ht (fun h => (kt h p l e R s m args below meth c H locs cells slots Z ls ad ca G A C hL hW hK)) (fun h => (kf h p l e R s m args below meth c H locs cells slots Z ls ad ca G A C hL hW hK))
theorem w_if_gt {x : Int32} {off : Int} (tgt : Nat) (hd : decode μ.2.1 pc = .ok (.ifCond .gt off, 3)) (ht : (pc : Int) + off = (tgt : Int)) (hn : pc + 3 = n) (kt : 0 < x → dk_W d μ tgt L st M Q) (kf : ¬ 0 < x → dk_W d μ n L st M Q) : dk_W d μ pc L (.int x :: st) M Q := by
  subst hn
  exact fun p l e R s m args below meth c H locs cells slots Z ls ad ca G A C hL hW hK => lv_if_gt (tgt := tgt) C.1 C.2.1 hd ht (fun h => (kt h p l e R s m args below meth c H locs cells slots Z ls ad ca G A C hL hW hK)) (fun h => (kf h p l e R s m args below meth c H locs cells slots Z ls ad ca G A C hL hW hK))
theorem w_if_le {x : Int32} {off : Int} (tgt : Nat) (hd : decode μ.2.1 pc = .ok (.ifCond .le off, 3)) (ht : (pc : Int) + off = (tgt : Int)) (hn : pc + 3 = n) (kt : x ≤ 0 → dk_W d μ tgt L st M Q) (kf : ¬ x ≤ 0 → dk_W d μ n L st M Q) : dk_W d μ pc L (.int x :: st) M Q := by
  subst hn
  exact fun p l e R s m args below meth c H locs cells slots Z ls ad ca G A C hL hW hK => lv_if_le (tgt := tgt) C.1 C.2.1 hd ht (fun h => (kt h p l e R s m args below meth c H locs cells slots Z ls ad ca G A C hL hW hK)) (fun h => (kf h p l e R s m args below meth c H locs cells slots Z ls ad ca G A C hL hW hK))
theorem w_ic_eq {x y : Int32} {off : Int} (tgt : Nat) (hd : decode μ.2.1 pc = .ok (.if_icmp .eq off, 3)) (ht : (pc : Int) + off = (tgt : Int)) (hn : pc + 3 = n) (kt : x = y → dk_W d μ tgt L st M Q) (kf : ¬ x = y → dk_W d μ n L st M Q) : dk_W d μ pc L (.int y :: .int x :: st) M Q := by
  subst hn
  exact fun p l e R s m args below meth c H locs cells slots Z ls ad ca G A C hL hW hK => lv_icmp_eq (tgt := tgt) C.1 C.2.1 hd ht (fun h => (kt h p l e R s m args below meth c H locs cells slots Z ls ad ca G A C hL hW hK)) (fun h => (kf h p l e R s m args below meth c H locs cells slots Z ls ad ca G A C hL hW hK))
theorem w_ic_ne {x y : Int32} {off : Int} (tgt : Nat) (hd : decode μ.2.1 pc = .ok (.if_icmp .ne off, 3)) (ht : (pc : Int) + off = (tgt : Int)) (hn : pc + 3 = n) (kt : ¬ x = y → dk_W d μ tgt L st M Q) (kf : x = y → dk_W d μ n L st M Q) : dk_W d μ pc L (.int y :: .int x :: st) M Q := by
  subst hn
  exact fun p l e R s m args below meth c H locs cells slots Z ls ad ca G A C hL hW hK => lv_icmp_ne (tgt := tgt) C.1 C.2.1 hd ht (fun h => (kt h p l e R s m args below meth c H locs cells slots Z ls ad ca G A C hL hW hK)) (fun h => (kf h p l e R s m args below meth c H locs cells slots Z ls ad ca G A C hL hW hK))
theorem w_ic_lt {x y : Int32} {off : Int} (tgt : Nat) (hd : decode μ.2.1 pc = .ok (.if_icmp .lt off, 3)) (ht : (pc : Int) + off = (tgt : Int)) (hn : pc + 3 = n) (kt : x < y → dk_W d μ tgt L st M Q) (kf : ¬ x < y → dk_W d μ n L st M Q) : dk_W d μ pc L (.int y :: .int x :: st) M Q := by
  subst hn
  exact fun p l e R s m args below meth c H locs cells slots Z ls ad ca G A C hL hW hK => lv_icmp_lt (tgt := tgt) C.1 C.2.1 hd ht (fun h => (kt h p l e R s m args below meth c H locs cells slots Z ls ad ca G A C hL hW hK)) (fun h => (kf h p l e R s m args below meth c H locs cells slots Z ls ad ca G A C hL hW hK))
theorem w_ic_ge {x y : Int32} {off : Int} (tgt : Nat) (hd : decode μ.2.1 pc = .ok (.if_icmp .ge off, 3)) (ht : (pc : Int) + off = (tgt : Int)) (hn : pc + 3 = n) (kt : y ≤ x → dk_W d μ tgt L st M Q) (kf : ¬ y ≤ x → dk_W d μ n L st M Q) : dk_W d μ pc L (.int y :: .int x :: st) M Q := by
  subst hn
  exact fun p l e R s m args below meth c H locs cells slots Z ls ad ca G A C hL hW hK => lv_icmp_ge (tgt := tgt) C.1 C.2.1 hd ht (fun h => (kt h p l e R s m args below meth c H locs cells slots Z ls ad ca G A C hL hW hK)) (fun h => (kf h p l e R s m args below meth c H locs cells slots Z ls ad ca G A C hL hW hK))
theorem w_ic_gt {x y : Int32} {off : Int} (tgt : Nat) (hd : decode μ.2.1 pc = .ok (.if_icmp .gt off, 3)) (ht : (pc : Int) + off = (tgt : Int)) (hn : pc + 3 = n) (kt : y < x → dk_W d μ tgt L st M Q) (kf : ¬ y < x → dk_W d μ n L st M Q) : dk_W d μ pc L (.int y :: .int x :: st) M Q := by
  subst hn
  exact fun p l e R s m args below meth c H locs cells slots Z ls ad ca G A C hL hW hK => lv_icmp_gt (tgt := tgt) C.1 C.2.1 hd ht (fun h => (kt h p l e R s m args below meth c H locs cells slots Z ls ad ca G A C hL hW hK)) (fun h => (kf h p l e R s m args below meth c H locs cells slots Z ls ad ca G A C hL hW hK))
theorem w_ic_le {x y : Int32} {off : Int} (tgt : Nat) (hd : decode μ.2.1 pc = .ok (.if_icmp .le off, 3)) (ht : (pc : Int) + off = (tgt : Int)) (hn : pc + 3 = n) (kt : x ≤ y → dk_W d μ tgt L st M Q) (kf : ¬ x ≤ y → dk_W d μ n L st M Q) : dk_W d μ pc L (.int y :: .int x :: st) M Q := by
  subst hn
  exact fun p l e R s m args below meth c H locs cells slots Z ls ad ca G A C hL hW hK => lv_icmp_le (tgt := tgt) C.1 C.2.1 hd ht (fun h => (kt h p l e R s m args below meth c H locs cells slots Z ls ad ca G A C hL hW hK)) (fun h => (kf h p l e R s m args below meth c H locs cells slots Z ls ad ca G A C hL hW hK))
theorem w_goto {off : Int} (tgt : Nat) (hd : decode μ.2.1 pc = .ok (.goto off, 3)) (ht : (pc : Int) + off = (tgt : Int)) (k : dk_W d μ tgt L st M Q) : dk_W d μ pc L st M Q :=
  fun p l e R s m args below meth c H locs cells slots Z ls ad ca G A C hL hW hK => lv_goto (tgt := tgt) C.1 C.2.1 hd ht (k p l e R s m args below meth c H locs cells slots Z ls ad ca G A C hL hW hK)
theorem w_ifnullR {x : Nat} {off : Int} (hd : decode μ.2.1 pc = .ok (.ifnull off, 3)) (hn : pc + 3 = n) (k : dk_W d μ n L st M Q) : dk_W d μ pc L (.ref x :: st) M Q := by
  subst hn
  exact fun p l e R s m args below meth c H locs cells slots Z ls ad ca G A C hL hW hK => lv_ifnull C.1 C.2.1 hd (k p l e R s m args below meth c H locs cells slots Z ls ad ca G A C hL hW hK)
theorem w_ifnullN {off : Int} (tgt : Nat) (hd : decode μ.2.1 pc = .ok (.ifnull off, 3)) (ht : (pc : Int) + off = (tgt : Int)) (k : dk_W d μ tgt L st M Q) : dk_W d μ pc L (.null :: st) M Q :=
  fun p l e R s m args below meth c H locs cells slots Z ls ad ca G A C hL hW hK => lv_ifnullN (tgt := tgt) C.1 C.2.1 hd ht (k p l e R s m args below meth c H locs cells slots Z ls ad ca G A C hL hW hK)
theorem w_ifnonnullR {x : Nat} {off : Int} (tgt : Nat) (hd : decode μ.2.1 pc = .ok (.ifnonnull off, 3)) (ht : (pc : Int) + off = (tgt : Int)) (k : dk_W d μ tgt L st M Q) : dk_W d μ pc L (.ref x :: st) M Q :=
  fun p l e R s m args below meth c H locs cells slots Z ls ad ca G A C hL hW hK => lv_ifnonnull (tgt := tgt) C.1 C.2.1 hd ht (k p l e R s m args below meth c H locs cells slots Z ls ad ca G A C hL hW hK)
theorem w_ifnonnullN {off : Int} (hd : decode μ.2.1 pc = .ok (.ifnonnull off, 3)) (hn : pc + 3 = n) (k : dk_W d μ n L st M Q) : dk_W d μ pc L (.null :: st) M Q := by
  subst hn
  exact fun p l e R s m args below meth c H locs cells slots Z ls ad ca G A C hL hW hK => lv_ifnonnullN C.1 C.2.1 hd (k p l e R s m args below meth c H locs cells slots Z ls ad ca G A C hL hW hK)
theorem w_tabIn {dflt lo hi : Int} {offs : Array Int} {len : Nat} {x : Int32} {off : Int} (tgt : Nat) (hd : decode μ.2.1 pc = .ok (.tableswitch dflt lo hi offs, len)) (h1 : ¬ x.toInt < lo) (h2 : ¬ hi < x.toInt) (ho : offs[(x.toInt - lo).toNat]? = some off) (ht : (pc : Int) + off = (tgt : Int)) (k : dk_W d μ tgt L st M Q) : dk_W d μ pc L (.int x :: st) M Q :=
  fun p l e R s m args below meth c H locs cells slots Z ls ad ca G A C hL hW hK => lv_tableIn (tgt := tgt) C.1 C.2.1 hd h1 h2 ho ht (k p l e R s m args below meth c H locs cells slots Z ls ad ca G A C hL hW hK)
theorem w_tabOut {dflt lo hi : Int} {offs : Array Int} {len : Nat} {x : Int32} (tgt : Nat) (hd : decode μ.2.1 pc = .ok (.tableswitch dflt lo hi offs, len)) (h : x.toInt < lo ∨ hi < x.toInt) (ht : (pc : Int) + dflt = (tgt : Int)) (k : dk_W d μ tgt L st M Q) : dk_W d μ pc L (.int x :: st) M Q :=
  fun p l e R s m args below meth c H locs cells slots Z ls ad ca G A C hL hW hK => lv_tableOut (tgt := tgt) C.1 C.2.1 hd h ht (k p l e R s m args below meth c H locs cells slots Z ls ad ca G A C hL hW hK)
theorem w_look {dflt : Int} {ps : Array (Int × Int)} {len : Nat} {x : Int32} {off : Int} (tgt : Nat) (hd : decode μ.2.1 pc = .ok (.lookupswitch dflt ps, len)) (hp : (ps.toList.zip (ps.toList.drop 1)).all (fun (a, next) => a.1 < next.1) = true) (ho : Op.lookupswitch.offset ps.toList dflt x.toInt = off) (ht : (pc : Int) + off = (tgt : Int)) (k : dk_W d μ tgt L st M Q) : dk_W d μ pc L (.int x :: st) M Q :=
  fun p l e R s m args below meth c H locs cells slots Z ls ad ca G A C hL hW hK => lv_lookup (tgt := tgt) C.1 C.2.1 hd hp ho ht (k p l e R s m args below meth c H locs cells slots Z ls ad ca G A C hL hW hK)
theorem w_il0 {x : Int32} (hd : decode μ.2.1 pc = .ok (.iload_n 0, 1)) (hn : pc + 1 = n) (k : dk_W d μ n (some (.int x) :: L) (.int x :: st) M Q) : dk_W d μ pc (some (.int x) :: L) st M Q := by
  subst hn
  exact fun p l e R s m args below meth c H locs cells slots Z ls ad ca G A C hL hW hK => lv_iload_n C.1 C.2.1 hd rfl (hL.at (i := 0) rfl) (k p l e R s m args below meth c H locs cells slots Z ls ad ca G A C hL hW hK)
theorem w_al0 {x : Nat} (hd : decode μ.2.1 pc = .ok (.aload_n 0, 1)) (hn : pc + 1 = n) (k : dk_W d μ n (some (.ref x) :: L) (.ref x :: st) M Q) : dk_W d μ pc (some (.ref x) :: L) st M Q := by
  subst hn
  exact fun p l e R s m args below meth c H locs cells slots Z ls ad ca G A C hL hW hK => lv_aload_n C.1 C.2.1 hd rfl (hL.at (i := 0) rfl) (k p l e R s m args below meth c H locs cells slots Z ls ad ca G A C hL hW hK)
theorem w_ll0 {x : Int64} (hd : decode μ.2.1 pc = .ok (.lload_n 0, 1)) (hn : pc + 1 = n) (k : dk_W d μ n (some (.long x) :: L) (.long x :: st) M Q) : dk_W d μ pc (some (.long x) :: L) st M Q := by
  subst hn
  exact fun p l e R s m args below meth c H locs cells slots Z ls ad ca G A C hL hW hK => lv_lload_n C.1 C.2.1 hd rfl (hL.at (i := 0) rfl) (k p l e R s m args below meth c H locs cells slots Z ls ad ca G A C hL hW hK)
theorem w_is0 {b : Option Value} {x : Int32} (hd : decode μ.2.1 pc = .ok (.istore_n 0, 1)) (hn : pc + 1 = n) (hi : 0 < μ.2.2.1) (k : dk_W d μ n (some (.int x) :: L) st M Q) : dk_W d μ pc (b :: L) (.int x :: st) M Q := by
  subst hn
  exact fun p l e R s m args below meth c H locs cells slots Z ls ad ca G A C hL hW hK => lv_istore_n C.1 C.2.1 hd rfl hL hi rfl (fun ls' h' => (k p l e R s m args below meth c H locs cells slots Z ls' ad ca G A C (dk_Lv.set (v := .int x) (L := b :: L) (i := 0) (by simp) (fun a h _ => absurd rfl h) h') hW hK))
theorem w_as0 {b : Option Value} {x : Nat} (hd : decode μ.2.1 pc = .ok (.astore_n 0, 1)) (hn : pc + 1 = n) (hi : 0 < μ.2.2.1) (k : dk_W d μ n (some (.ref x) :: L) st M Q) : dk_W d μ pc (b :: L) (.ref x :: st) M Q := by
  subst hn
  exact fun p l e R s m args below meth c H locs cells slots Z ls ad ca G A C hL hW hK => lv_astore_n C.1 C.2.1 hd rfl hL hi rfl (fun ls' h' => (k p l e R s m args below meth c H locs cells slots Z ls' ad ca G A C (dk_Lv.set (v := .ref x) (L := b :: L) (i := 0) (by simp) (fun a h _ => absurd rfl h) h') hW hK))
theorem w_inc0 {x : Int32} {z : Int} (v : Int32) (hd : decode μ.2.1 pc = .ok (.iinc 0 z, 3)) (hv : Int32.ofInt z = v) (hn : pc + 3 = n) (hi : 0 < μ.2.2.1) (k : dk_W d μ n (some (.int (x + v)) :: L) st M Q) : dk_W d μ pc (some (.int x) :: L) st M Q := by
  subst hn
  intro p l e R s m args below meth c H locs cells slots Z ls ad ca G A C hL hW hK
  obtain ⟨q, hq⟩ := List.getElem?_of_mem ((dk_prs_mem (ad := ad) (some (.int x) :: L) 0 0 (.int x)).mpr ⟨0, .int x, rfl, rfl, rfl⟩)
  exact lv_iinc (v := x + v) C.1 C.2.1 hd hL hq (by rw [hv]) hi rfl (fun ls' h' => (k p l e R s m args below meth c H locs cells slots Z ls' ad ca G A C (dk_Lv.set (v := .int (x + v)) (L := some (.int x) :: L) (i := 0) (by simp) (fun a h _ => absurd rfl h) h') hW hK))
theorem w_il1 {a0 : Option Value} {x : Int32} (hd : decode μ.2.1 pc = .ok (.iload_n 1, 1)) (hn : pc + 1 = n) (k : dk_W d μ n (a0 :: some (.int x) :: L) (.int x :: st) M Q) : dk_W d μ pc (a0 :: some (.int x) :: L) st M Q := by
  subst hn
  exact fun p l e R s m args below meth c H locs cells slots Z ls ad ca G A C hL hW hK => lv_iload_n C.1 C.2.1 hd rfl (hL.at (i := 1) rfl) (k p l e R s m args below meth c H locs cells slots Z ls ad ca G A C hL hW hK)
theorem w_al1 {a0 : Option Value} {x : Nat} (hd : decode μ.2.1 pc = .ok (.aload_n 1, 1)) (hn : pc + 1 = n) (k : dk_W d μ n (a0 :: some (.ref x) :: L) (.ref x :: st) M Q) : dk_W d μ pc (a0 :: some (.ref x) :: L) st M Q := by
  subst hn
  exact fun p l e R s m args below meth c H locs cells slots Z ls ad ca G A C hL hW hK => lv_aload_n C.1 C.2.1 hd rfl (hL.at (i := 1) rfl) (k p l e R s m args below meth c H locs cells slots Z ls ad ca G A C hL hW hK)
theorem w_ll1 {a0 : Option Value} {x : Int64} (hd : decode μ.2.1 pc = .ok (.lload_n 1, 1)) (hn : pc + 1 = n) (k : dk_W d μ n (a0 :: some (.long x) :: L) (.long x :: st) M Q) : dk_W d μ pc (a0 :: some (.long x) :: L) st M Q := by
  subst hn
  exact fun p l e R s m args below meth c H locs cells slots Z ls ad ca G A C hL hW hK => lv_lload_n C.1 C.2.1 hd rfl (hL.at (i := 1) rfl) (k p l e R s m args below meth c H locs cells slots Z ls ad ca G A C hL hW hK)
theorem w_is1 {a0 : Option Value} {b : Option Value} {x : Int32} (hd : decode μ.2.1 pc = .ok (.istore_n 1, 1)) (hn : pc + 1 = n) (hx : dk_nl a0 = true) (hi : 1 < μ.2.2.1) (k : dk_W d μ n (a0 :: some (.int x) :: L) st M Q) : dk_W d μ pc (a0 :: b :: L) (.int x :: st) M Q := by
  subst hn
  exact fun p l e R s m args below meth c H locs cells slots Z ls ad ca G A C hL hW hK => lv_istore_n C.1 C.2.1 hd rfl hL hi rfl (fun ls' h' => (k p l e R s m args below meth c H locs cells slots Z ls' ad ca G A C (dk_Lv.set (v := .int x) (L := a0 :: b :: L) (i := 1) (by simp) (fun a _ h => by cases h; exact hx) h') hW hK))
theorem w_as1 {a0 : Option Value} {b : Option Value} {x : Nat} (hd : decode μ.2.1 pc = .ok (.astore_n 1, 1)) (hn : pc + 1 = n) (hx : dk_nl a0 = true) (hi : 1 < μ.2.2.1) (k : dk_W d μ n (a0 :: some (.ref x) :: L) st M Q) : dk_W d μ pc (a0 :: b :: L) (.ref x :: st) M Q := by
  subst hn
  exact fun p l e R s m args below meth c H locs cells slots Z ls ad ca G A C hL hW hK => lv_astore_n C.1 C.2.1 hd rfl hL hi rfl (fun ls' h' => (k p l e R s m args below meth c H locs cells slots Z ls' ad ca G A C (dk_Lv.set (v := .ref x) (L := a0 :: b :: L) (i := 1) (by simp) (fun a _ h => by cases h; exact hx) h') hW hK))
theorem w_inc1 {a0 : Option Value} {x : Int32} {z : Int} (v : Int32) (hd : decode μ.2.1 pc = .ok (.iinc 1 z, 3)) (hv : Int32.ofInt z = v) (hn : pc + 3 = n) (hx : dk_nl a0 = true) (hi : 1 < μ.2.2.1) (k : dk_W d μ n (a0 :: some (.int (x + v)) :: L) st M Q) : dk_W d μ pc (a0 :: some (.int x) :: L) st M Q := by
  subst hn
  intro p l e R s m args below meth c H locs cells slots Z ls ad ca G A C hL hW hK
  obtain ⟨q, hq⟩ := List.getElem?_of_mem ((dk_prs_mem (ad := ad) (a0 :: some (.int x) :: L) 0 1 (.int x)).mpr ⟨1, .int x, rfl, rfl, rfl⟩)
  exact lv_iinc (v := x + v) C.1 C.2.1 hd hL hq (by rw [hv]) hi rfl (fun ls' h' => (k p l e R s m args below meth c H locs cells slots Z ls' ad ca G A C (dk_Lv.set (v := .int (x + v)) (L := a0 :: some (.int x) :: L) (i := 1) (by simp) (fun a _ h => by cases h; exact hx) h') hW hK))
theorem w_il2 {a0 a1 : Option Value} {x : Int32} (hd : decode μ.2.1 pc = .ok (.iload_n 2, 1)) (hn : pc + 1 = n) (k : dk_W d μ n (a0 :: a1 :: some (.int x) :: L) (.int x :: st) M Q) : dk_W d μ pc (a0 :: a1 :: some (.int x) :: L) st M Q := by
  subst hn
  exact fun p l e R s m args below meth c H locs cells slots Z ls ad ca G A C hL hW hK => lv_iload_n C.1 C.2.1 hd rfl (hL.at (i := 2) rfl) (k p l e R s m args below meth c H locs cells slots Z ls ad ca G A C hL hW hK)
theorem w_al2 {a0 a1 : Option Value} {x : Nat} (hd : decode μ.2.1 pc = .ok (.aload_n 2, 1)) (hn : pc + 1 = n) (k : dk_W d μ n (a0 :: a1 :: some (.ref x) :: L) (.ref x :: st) M Q) : dk_W d μ pc (a0 :: a1 :: some (.ref x) :: L) st M Q := by
  subst hn
  exact fun p l e R s m args below meth c H locs cells slots Z ls ad ca G A C hL hW hK => lv_aload_n C.1 C.2.1 hd rfl (hL.at (i := 2) rfl) (k p l e R s m args below meth c H locs cells slots Z ls ad ca G A C hL hW hK)
theorem w_ll2 {a0 a1 : Option Value} {x : Int64} (hd : decode μ.2.1 pc = .ok (.lload_n 2, 1)) (hn : pc + 1 = n) (k : dk_W d μ n (a0 :: a1 :: some (.long x) :: L) (.long x :: st) M Q) : dk_W d μ pc (a0 :: a1 :: some (.long x) :: L) st M Q := by
  subst hn
  exact fun p l e R s m args below meth c H locs cells slots Z ls ad ca G A C hL hW hK => lv_lload_n C.1 C.2.1 hd rfl (hL.at (i := 2) rfl) (k p l e R s m args below meth c H locs cells slots Z ls ad ca G A C hL hW hK)
theorem w_is2 {a0 a1 : Option Value} {b : Option Value} {x : Int32} (hd : decode μ.2.1 pc = .ok (.istore_n 2, 1)) (hn : pc + 1 = n) (hx : dk_nl a1 = true) (hi : 2 < μ.2.2.1) (k : dk_W d μ n (a0 :: a1 :: some (.int x) :: L) st M Q) : dk_W d μ pc (a0 :: a1 :: b :: L) (.int x :: st) M Q := by
  subst hn
  exact fun p l e R s m args below meth c H locs cells slots Z ls ad ca G A C hL hW hK => lv_istore_n C.1 C.2.1 hd rfl hL hi rfl (fun ls' h' => (k p l e R s m args below meth c H locs cells slots Z ls' ad ca G A C (dk_Lv.set (v := .int x) (L := a0 :: a1 :: b :: L) (i := 2) (by simp) (fun a _ h => by cases h; exact hx) h') hW hK))
theorem w_as2 {a0 a1 : Option Value} {b : Option Value} {x : Nat} (hd : decode μ.2.1 pc = .ok (.astore_n 2, 1)) (hn : pc + 1 = n) (hx : dk_nl a1 = true) (hi : 2 < μ.2.2.1) (k : dk_W d μ n (a0 :: a1 :: some (.ref x) :: L) st M Q) : dk_W d μ pc (a0 :: a1 :: b :: L) (.ref x :: st) M Q := by
  subst hn
  exact fun p l e R s m args below meth c H locs cells slots Z ls ad ca G A C hL hW hK => lv_astore_n C.1 C.2.1 hd rfl hL hi rfl (fun ls' h' => (k p l e R s m args below meth c H locs cells slots Z ls' ad ca G A C (dk_Lv.set (v := .ref x) (L := a0 :: a1 :: b :: L) (i := 2) (by simp) (fun a _ h => by cases h; exact hx) h') hW hK))
theorem w_inc2 {a0 a1 : Option Value} {x : Int32} {z : Int} (v : Int32) (hd : decode μ.2.1 pc = .ok (.iinc 2 z, 3)) (hv : Int32.ofInt z = v) (hn : pc + 3 = n) (hx : dk_nl a1 = true) (hi : 2 < μ.2.2.1) (k : dk_W d μ n (a0 :: a1 :: some (.int (x + v)) :: L) st M Q) : dk_W d μ pc (a0 :: a1 :: some (.int x) :: L) st M Q := by
  subst hn
  intro p l e R s m args below meth c H locs cells slots Z ls ad ca G A C hL hW hK
  obtain ⟨q, hq⟩ := List.getElem?_of_mem ((dk_prs_mem (ad := ad) (a0 :: a1 :: some (.int x) :: L) 0 2 (.int x)).mpr ⟨2, .int x, rfl, rfl, rfl⟩)
  exact lv_iinc (v := x + v) C.1 C.2.1 hd hL hq (by rw [hv]) hi rfl (fun ls' h' => (k p l e R s m args below meth c H locs cells slots Z ls' ad ca G A C (dk_Lv.set (v := .int (x + v)) (L := a0 :: a1 :: some (.int x) :: L) (i := 2) (by simp) (fun a _ h => by cases h; exact hx) h') hW hK))
theorem w_il3 {a0 a1 a2 : Option Value} {x : Int32} (hd : decode μ.2.1 pc = .ok (.iload_n 3, 1)) (hn : pc + 1 = n) (k : dk_W d μ n (a0 :: a1 :: a2 :: some (.int x) :: L) (.int x :: st) M Q) : dk_W d μ pc (a0 :: a1 :: a2 :: some (.int x) :: L) st M Q := by
  subst hn
  exact fun p l e R s m args below meth c H locs cells slots Z ls ad ca G A C hL hW hK => lv_iload_n C.1 C.2.1 hd rfl (hL.at (i := 3) rfl) (k p l e R s m args below meth c H locs cells slots Z ls ad ca G A C hL hW hK)
theorem w_al3 {a0 a1 a2 : Option Value} {x : Nat} (hd : decode μ.2.1 pc = .ok (.aload_n 3, 1)) (hn : pc + 1 = n) (k : dk_W d μ n (a0 :: a1 :: a2 :: some (.ref x) :: L) (.ref x :: st) M Q) : dk_W d μ pc (a0 :: a1 :: a2 :: some (.ref x) :: L) st M Q := by
  subst hn
  exact fun p l e R s m args below meth c H locs cells slots Z ls ad ca G A C hL hW hK => lv_aload_n C.1 C.2.1 hd rfl (hL.at (i := 3) rfl) (k p l e R s m args below meth c H locs cells slots Z ls ad ca G A C hL hW hK)
theorem w_ll3 {a0 a1 a2 : Option Value} {x : Int64} (hd : decode μ.2.1 pc = .ok (.lload_n 3, 1)) (hn : pc + 1 = n) (k : dk_W d μ n (a0 :: a1 :: a2 :: some (.long x) :: L) (.long x :: st) M Q) : dk_W d μ pc (a0 :: a1 :: a2 :: some (.long x) :: L) st M Q := by
  subst hn
  exact fun p l e R s m args below meth c H locs cells slots Z ls ad ca G A C hL hW hK => lv_lload_n C.1 C.2.1 hd rfl (hL.at (i := 3) rfl) (k p l e R s m args below meth c H locs cells slots Z ls ad ca G A C hL hW hK)
theorem w_is3 {a0 a1 a2 : Option Value} {b : Option Value} {x : Int32} (hd : decode μ.2.1 pc = .ok (.istore_n 3, 1)) (hn : pc + 1 = n) (hx : dk_nl a2 = true) (hi : 3 < μ.2.2.1) (k : dk_W d μ n (a0 :: a1 :: a2 :: some (.int x) :: L) st M Q) : dk_W d μ pc (a0 :: a1 :: a2 :: b :: L) (.int x :: st) M Q := by
  subst hn
  exact fun p l e R s m args below meth c H locs cells slots Z ls ad ca G A C hL hW hK => lv_istore_n C.1 C.2.1 hd rfl hL hi rfl (fun ls' h' => (k p l e R s m args below meth c H locs cells slots Z ls' ad ca G A C (dk_Lv.set (v := .int x) (L := a0 :: a1 :: a2 :: b :: L) (i := 3) (by simp) (fun a _ h => by cases h; exact hx) h') hW hK))
theorem w_as3 {a0 a1 a2 : Option Value} {b : Option Value} {x : Nat} (hd : decode μ.2.1 pc = .ok (.astore_n 3, 1)) (hn : pc + 1 = n) (hx : dk_nl a2 = true) (hi : 3 < μ.2.2.1) (k : dk_W d μ n (a0 :: a1 :: a2 :: some (.ref x) :: L) st M Q) : dk_W d μ pc (a0 :: a1 :: a2 :: b :: L) (.ref x :: st) M Q := by
  subst hn
  exact fun p l e R s m args below meth c H locs cells slots Z ls ad ca G A C hL hW hK => lv_astore_n C.1 C.2.1 hd rfl hL hi rfl (fun ls' h' => (k p l e R s m args below meth c H locs cells slots Z ls' ad ca G A C (dk_Lv.set (v := .ref x) (L := a0 :: a1 :: a2 :: b :: L) (i := 3) (by simp) (fun a _ h => by cases h; exact hx) h') hW hK))
theorem w_inc3 {a0 a1 a2 : Option Value} {x : Int32} {z : Int} (v : Int32) (hd : decode μ.2.1 pc = .ok (.iinc 3 z, 3)) (hv : Int32.ofInt z = v) (hn : pc + 3 = n) (hx : dk_nl a2 = true) (hi : 3 < μ.2.2.1) (k : dk_W d μ n (a0 :: a1 :: a2 :: some (.int (x + v)) :: L) st M Q) : dk_W d μ pc (a0 :: a1 :: a2 :: some (.int x) :: L) st M Q := by
  subst hn
  intro p l e R s m args below meth c H locs cells slots Z ls ad ca G A C hL hW hK
  obtain ⟨q, hq⟩ := List.getElem?_of_mem ((dk_prs_mem (ad := ad) (a0 :: a1 :: a2 :: some (.int x) :: L) 0 3 (.int x)).mpr ⟨3, .int x, rfl, rfl, rfl⟩)
  exact lv_iinc (v := x + v) C.1 C.2.1 hd hL hq (by rw [hv]) hi rfl (fun ls' h' => (k p l e R s m args below meth c H locs cells slots Z ls' ad ca G A C (dk_Lv.set (v := .int (x + v)) (L := a0 :: a1 :: a2 :: some (.int x) :: L) (i := 3) (by simp) (fun a _ h => by cases h; exact hx) h') hW hK))
theorem w_il4 {a0 a1 a2 a3 : Option Value} {x : Int32} (hd : decode μ.2.1 pc = .ok (.iload 4, 2)) (hn : pc + 2 = n) (k : dk_W d μ n (a0 :: a1 :: a2 :: a3 :: some (.int x) :: L) (.int x :: st) M Q) : dk_W d μ pc (a0 :: a1 :: a2 :: a3 :: some (.int x) :: L) st M Q := by
  subst hn
  exact fun p l e R s m args below meth c H locs cells slots Z ls ad ca G A C hL hW hK => lv_iload C.1 C.2.1 hd (hL.at (i := 4) rfl) (k p l e R s m args below meth c H locs cells slots Z ls ad ca G A C hL hW hK)
theorem w_al4 {a0 a1 a2 a3 : Option Value} {x : Nat} (hd : decode μ.2.1 pc = .ok (.aload 4, 2)) (hn : pc + 2 = n) (k : dk_W d μ n (a0 :: a1 :: a2 :: a3 :: some (.ref x) :: L) (.ref x :: st) M Q) : dk_W d μ pc (a0 :: a1 :: a2 :: a3 :: some (.ref x) :: L) st M Q := by
  subst hn
  exact fun p l e R s m args below meth c H locs cells slots Z ls ad ca G A C hL hW hK => lv_aload C.1 C.2.1 hd (hL.at (i := 4) rfl) (k p l e R s m args below meth c H locs cells slots Z ls ad ca G A C hL hW hK)
theorem w_is4 {a0 a1 a2 a3 : Option Value} {b : Option Value} {x : Int32} (hd : decode μ.2.1 pc = .ok (.istore 4, 2)) (hn : pc + 2 = n) (hx : dk_nl a3 = true) (hi : 4 < μ.2.2.1) (k : dk_W d μ n (a0 :: a1 :: a2 :: a3 :: some (.int x) :: L) st M Q) : dk_W d μ pc (a0 :: a1 :: a2 :: a3 :: b :: L) (.int x :: st) M Q := by
  subst hn
  exact fun p l e R s m args below meth c H locs cells slots Z ls ad ca G A C hL hW hK => lv_istore C.1 C.2.1 hd hL hi rfl (fun ls' h' => (k p l e R s m args below meth c H locs cells slots Z ls' ad ca G A C (dk_Lv.set (v := .int x) (L := a0 :: a1 :: a2 :: a3 :: b :: L) (i := 4) (by simp) (fun a _ h => by cases h; exact hx) h') hW hK))
theorem w_as4 {a0 a1 a2 a3 : Option Value} {b : Option Value} {x : Nat} (hd : decode μ.2.1 pc = .ok (.astore 4, 2)) (hn : pc + 2 = n) (hx : dk_nl a3 = true) (hi : 4 < μ.2.2.1) (k : dk_W d μ n (a0 :: a1 :: a2 :: a3 :: some (.ref x) :: L) st M Q) : dk_W d μ pc (a0 :: a1 :: a2 :: a3 :: b :: L) (.ref x :: st) M Q := by
  subst hn
  exact fun p l e R s m args below meth c H locs cells slots Z ls ad ca G A C hL hW hK => lv_astore C.1 C.2.1 hd hL hi rfl (fun ls' h' => (k p l e R s m args below meth c H locs cells slots Z ls' ad ca G A C (dk_Lv.set (v := .ref x) (L := a0 :: a1 :: a2 :: a3 :: b :: L) (i := 4) (by simp) (fun a _ h => by cases h; exact hx) h') hW hK))
theorem w_inc4 {a0 a1 a2 a3 : Option Value} {x : Int32} {z : Int} (v : Int32) (hd : decode μ.2.1 pc = .ok (.iinc 4 z, 3)) (hv : Int32.ofInt z = v) (hn : pc + 3 = n) (hx : dk_nl a3 = true) (hi : 4 < μ.2.2.1) (k : dk_W d μ n (a0 :: a1 :: a2 :: a3 :: some (.int (x + v)) :: L) st M Q) : dk_W d μ pc (a0 :: a1 :: a2 :: a3 :: some (.int x) :: L) st M Q := by
  subst hn
  intro p l e R s m args below meth c H locs cells slots Z ls ad ca G A C hL hW hK
  obtain ⟨q, hq⟩ := List.getElem?_of_mem ((dk_prs_mem (ad := ad) (a0 :: a1 :: a2 :: a3 :: some (.int x) :: L) 0 4 (.int x)).mpr ⟨4, .int x, rfl, rfl, rfl⟩)
  exact lv_iinc (v := x + v) C.1 C.2.1 hd hL hq (by rw [hv]) hi rfl (fun ls' h' => (k p l e R s m args below meth c H locs cells slots Z ls' ad ca G A C (dk_Lv.set (v := .int (x + v)) (L := a0 :: a1 :: a2 :: a3 :: some (.int x) :: L) (i := 4) (by simp) (fun a _ h => by cases h; exact hx) h') hW hK))
theorem w_il5 {a0 a1 a2 a3 a4 : Option Value} {x : Int32} (hd : decode μ.2.1 pc = .ok (.iload 5, 2)) (hn : pc + 2 = n) (k : dk_W d μ n (a0 :: a1 :: a2 :: a3 :: a4 :: some (.int x) :: L) (.int x :: st) M Q) : dk_W d μ pc (a0 :: a1 :: a2 :: a3 :: a4 :: some (.int x) :: L) st M Q := by
  subst hn
  exact fun p l e R s m args below meth c H locs cells slots Z ls ad ca G A C hL hW hK => lv_iload C.1 C.2.1 hd (hL.at (i := 5) rfl) (k p l e R s m args below meth c H locs cells slots Z ls ad ca G A C hL hW hK)
theorem w_al5 {a0 a1 a2 a3 a4 : Option Value} {x : Nat} (hd : decode μ.2.1 pc = .ok (.aload 5, 2)) (hn : pc + 2 = n) (k : dk_W d μ n (a0 :: a1 :: a2 :: a3 :: a4 :: some (.ref x) :: L) (.ref x :: st) M Q) : dk_W d μ pc (a0 :: a1 :: a2 :: a3 :: a4 :: some (.ref x) :: L) st M Q := by
  subst hn
  exact fun p l e R s m args below meth c H locs cells slots Z ls ad ca G A C hL hW hK => lv_aload C.1 C.2.1 hd (hL.at (i := 5) rfl) (k p l e R s m args below meth c H locs cells slots Z ls ad ca G A C hL hW hK)
theorem w_is5 {a0 a1 a2 a3 a4 : Option Value} {b : Option Value} {x : Int32} (hd : decode μ.2.1 pc = .ok (.istore 5, 2)) (hn : pc + 2 = n) (hx : dk_nl a4 = true) (hi : 5 < μ.2.2.1) (k : dk_W d μ n (a0 :: a1 :: a2 :: a3 :: a4 :: some (.int x) :: L) st M Q) : dk_W d μ pc (a0 :: a1 :: a2 :: a3 :: a4 :: b :: L) (.int x :: st) M Q := by
  subst hn
  exact fun p l e R s m args below meth c H locs cells slots Z ls ad ca G A C hL hW hK => lv_istore C.1 C.2.1 hd hL hi rfl (fun ls' h' => (k p l e R s m args below meth c H locs cells slots Z ls' ad ca G A C (dk_Lv.set (v := .int x) (L := a0 :: a1 :: a2 :: a3 :: a4 :: b :: L) (i := 5) (by simp) (fun a _ h => by cases h; exact hx) h') hW hK))
theorem w_as5 {a0 a1 a2 a3 a4 : Option Value} {b : Option Value} {x : Nat} (hd : decode μ.2.1 pc = .ok (.astore 5, 2)) (hn : pc + 2 = n) (hx : dk_nl a4 = true) (hi : 5 < μ.2.2.1) (k : dk_W d μ n (a0 :: a1 :: a2 :: a3 :: a4 :: some (.ref x) :: L) st M Q) : dk_W d μ pc (a0 :: a1 :: a2 :: a3 :: a4 :: b :: L) (.ref x :: st) M Q := by
  subst hn
  exact fun p l e R s m args below meth c H locs cells slots Z ls ad ca G A C hL hW hK => lv_astore C.1 C.2.1 hd hL hi rfl (fun ls' h' => (k p l e R s m args below meth c H locs cells slots Z ls' ad ca G A C (dk_Lv.set (v := .ref x) (L := a0 :: a1 :: a2 :: a3 :: a4 :: b :: L) (i := 5) (by simp) (fun a _ h => by cases h; exact hx) h') hW hK))
theorem w_inc5 {a0 a1 a2 a3 a4 : Option Value} {x : Int32} {z : Int} (v : Int32) (hd : decode μ.2.1 pc = .ok (.iinc 5 z, 3)) (hv : Int32.ofInt z = v) (hn : pc + 3 = n) (hx : dk_nl a4 = true) (hi : 5 < μ.2.2.1) (k : dk_W d μ n (a0 :: a1 :: a2 :: a3 :: a4 :: some (.int (x + v)) :: L) st M Q) : dk_W d μ pc (a0 :: a1 :: a2 :: a3 :: a4 :: some (.int x) :: L) st M Q := by
  subst hn
  intro p l e R s m args below meth c H locs cells slots Z ls ad ca G A C hL hW hK
  obtain ⟨q, hq⟩ := List.getElem?_of_mem ((dk_prs_mem (ad := ad) (a0 :: a1 :: a2 :: a3 :: a4 :: some (.int x) :: L) 0 5 (.int x)).mpr ⟨5, .int x, rfl, rfl, rfl⟩)
  exact lv_iinc (v := x + v) C.1 C.2.1 hd hL hq (by rw [hv]) hi rfl (fun ls' h' => (k p l e R s m args below meth c H locs cells slots Z ls' ad ca G A C (dk_Lv.set (v := .int (x + v)) (L := a0 :: a1 :: a2 :: a3 :: a4 :: some (.int x) :: L) (i := 5) (by simp) (fun a _ h => by cases h; exact hx) h') hW hK))
theorem w_il6 {a0 a1 a2 a3 a4 a5 : Option Value} {x : Int32} (hd : decode μ.2.1 pc = .ok (.iload 6, 2)) (hn : pc + 2 = n) (k : dk_W d μ n (a0 :: a1 :: a2 :: a3 :: a4 :: a5 :: some (.int x) :: L) (.int x :: st) M Q) : dk_W d μ pc (a0 :: a1 :: a2 :: a3 :: a4 :: a5 :: some (.int x) :: L) st M Q := by
  subst hn
  exact fun p l e R s m args below meth c H locs cells slots Z ls ad ca G A C hL hW hK => lv_iload C.1 C.2.1 hd (hL.at (i := 6) rfl) (k p l e R s m args below meth c H locs cells slots Z ls ad ca G A C hL hW hK)
theorem w_al6 {a0 a1 a2 a3 a4 a5 : Option Value} {x : Nat} (hd : decode μ.2.1 pc = .ok (.aload 6, 2)) (hn : pc + 2 = n) (k : dk_W d μ n (a0 :: a1 :: a2 :: a3 :: a4 :: a5 :: some (.ref x) :: L) (.ref x :: st) M Q) : dk_W d μ pc (a0 :: a1 :: a2 :: a3 :: a4 :: a5 :: some (.ref x) :: L) st M Q := by
  subst hn
  exact fun p l e R s m args below meth c H locs cells slots Z ls ad ca G A C hL hW hK => lv_aload C.1 C.2.1 hd (hL.at (i := 6) rfl) (k p l e R s m args below meth c H locs cells slots Z ls ad ca G A C hL hW hK)
theorem w_is6 {a0 a1 a2 a3 a4 a5 : Option Value} {b : Option Value} {x : Int32} (hd : decode μ.2.1 pc = .ok (.istore 6, 2)) (hn : pc + 2 = n) (hx : dk_nl a5 = true) (hi : 6 < μ.2.2.1) (k : dk_W d μ n (a0 :: a1 :: a2 :: a3 :: a4 :: a5 :: some (.int x) :: L) st M Q) : dk_W d μ pc (a0 :: a1 :: a2 :: a3 :: a4 :: a5 :: b :: L) (.int x :: st) M Q := by
  subst hn
  exact fun p l e R s m args below meth c H locs cells slots Z ls ad ca G A C hL hW hK => lv_istore C.1 C.2.1 hd hL hi rfl (fun ls' h' => (k p l e R s m args below meth c H locs cells slots Z ls' ad ca G A C (dk_Lv.set (v := .int x) (L := a0 :: a1 :: a2 :: a3 :: a4 :: a5 :: b :: L) (i := 6) (by simp) (fun a _ h => by cases h; exact hx) h') hW hK))
theorem w_as6 {a0 a1 a2 a3 a4 a5 : Option Value} {b : Option Value} {x : Nat} (hd : decode μ.2.1 pc = .ok (.astore 6, 2)) (hn : pc + 2 = n) (hx : dk_nl a5 = true) (hi : 6 < μ.2.2.1) (k : dk_W d μ n (a0 :: a1 :: a2 :: a3 :: a4 :: a5 :: some (.ref x) :: L) st M Q) : dk_W d μ pc (a0 :: a1 :: a2 :: a3 :: a4 :: a5 :: b :: L) (.ref x :: st) M Q := by
  subst hn
  exact fun p l e R s m args below meth c H locs cells slots Z ls ad ca G A C hL hW hK => lv_astore C.1 C.2.1 hd hL hi rfl (fun ls' h' => (k p l e R s m args below meth c H locs cells slots Z ls' ad ca G A C (dk_Lv.set (v := .ref x) (L := a0 :: a1 :: a2 :: a3 :: a4 :: a5 :: b :: L) (i := 6) (by simp) (fun a _ h => by cases h; exact hx) h') hW hK))
theorem w_inc6 {a0 a1 a2 a3 a4 a5 : Option Value} {x : Int32} {z : Int} (v : Int32) (hd : decode μ.2.1 pc = .ok (.iinc 6 z, 3)) (hv : Int32.ofInt z = v) (hn : pc + 3 = n) (hx : dk_nl a5 = true) (hi : 6 < μ.2.2.1) (k : dk_W d μ n (a0 :: a1 :: a2 :: a3 :: a4 :: a5 :: some (.int (x + v)) :: L) st M Q) : dk_W d μ pc (a0 :: a1 :: a2 :: a3 :: a4 :: a5 :: some (.int x) :: L) st M Q := by
  subst hn
  intro p l e R s m args below meth c H locs cells slots Z ls ad ca G A C hL hW hK
  obtain ⟨q, hq⟩ := List.getElem?_of_mem ((dk_prs_mem (ad := ad) (a0 :: a1 :: a2 :: a3 :: a4 :: a5 :: some (.int x) :: L) 0 6 (.int x)).mpr ⟨6, .int x, rfl, rfl, rfl⟩)
  exact lv_iinc (v := x + v) C.1 C.2.1 hd hL hq (by rw [hv]) hi rfl (fun ls' h' => (k p l e R s m args below meth c H locs cells slots Z ls' ad ca G A C (dk_Lv.set (v := .int (x + v)) (L := a0 :: a1 :: a2 :: a3 :: a4 :: a5 :: some (.int x) :: L) (i := 6) (by simp) (fun a _ h => by cases h; exact hx) h') hW hK))
theorem w_il7 {a0 a1 a2 a3 a4 a5 a6 : Option Value} {x : Int32} (hd : decode μ.2.1 pc = .ok (.iload 7, 2)) (hn : pc + 2 = n) (k : dk_W d μ n (a0 :: a1 :: a2 :: a3 :: a4 :: a5 :: a6 :: some (.int x) :: L) (.int x :: st) M Q) : dk_W d μ pc (a0 :: a1 :: a2 :: a3 :: a4 :: a5 :: a6 :: some (.int x) :: L) st M Q := by
  subst hn
  exact fun p l e R s m args below meth c H locs cells slots Z ls ad ca G A C hL hW hK => lv_iload C.1 C.2.1 hd (hL.at (i := 7) rfl) (k p l e R s m args below meth c H locs cells slots Z ls ad ca G A C hL hW hK)
theorem w_al7 {a0 a1 a2 a3 a4 a5 a6 : Option Value} {x : Nat} (hd : decode μ.2.1 pc = .ok (.aload 7, 2)) (hn : pc + 2 = n) (k : dk_W d μ n (a0 :: a1 :: a2 :: a3 :: a4 :: a5 :: a6 :: some (.ref x) :: L) (.ref x :: st) M Q) : dk_W d μ pc (a0 :: a1 :: a2 :: a3 :: a4 :: a5 :: a6 :: some (.ref x) :: L) st M Q := by
  subst hn
  exact fun p l e R s m args below meth c H locs cells slots Z ls ad ca G A C hL hW hK => lv_aload C.1 C.2.1 hd (hL.at (i := 7) rfl) (k p l e R s m args below meth c H locs cells slots Z ls ad ca G A C hL hW hK)
theorem w_is7 {a0 a1 a2 a3 a4 a5 a6 : Option Value} {b : Option Value} {x : Int32} (hd : decode μ.2.1 pc = .ok (.istore 7, 2)) (hn : pc + 2 = n) (hx : dk_nl a6 = true) (hi : 7 < μ.2.2.1) (k : dk_W d μ n (a0 :: a1 :: a2 :: a3 :: a4 :: a5 :: a6 :: some (.int x) :: L) st M Q) : dk_W d μ pc (a0 :: a1 :: a2 :: a3 :: a4 :: a5 :: a6 :: b :: L) (.int x :: st) M Q := by
  subst hn
  exact fun p l e R s m args below meth c H locs cells slots Z ls ad ca G A C hL hW hK => lv_istore C.1 C.2.1 hd hL hi rfl (fun ls' h' => (k p l e R s m args below meth c H locs cells slots Z ls' ad ca G A C (dk_Lv.set (v := .int x) (L := a0 :: a1 :: a2 :: a3 :: a4 :: a5 :: a6 :: b :: L) (i := 7) (by simp) (fun a _ h => by cases h; exact hx) h') hW hK))
theorem w_as7 {a0 a1 a2 a3 a4 a5 a6 : Option Value} {b : Option Value} {x : Nat} (hd : decode μ.2.1 pc = .ok (.astore 7, 2)) (hn : pc + 2 = n) (hx : dk_nl a6 = true) (hi : 7 < μ.2.2.1) (k : dk_W d μ n (a0 :: a1 :: a2 :: a3 :: a4 :: a5 :: a6 :: some (.ref x) :: L) st M Q) : dk_W d μ pc (a0 :: a1 :: a2 :: a3 :: a4 :: a5 :: a6 :: b :: L) (.ref x :: st) M Q := by
  subst hn
  exact fun p l e R s m args below meth c H locs cells slots Z ls ad ca G A C hL hW hK => lv_astore C.1 C.2.1 hd hL hi rfl (fun ls' h' => (k p l e R s m args below meth c H locs cells slots Z ls' ad ca G A C (dk_Lv.set (v := .ref x) (L := a0 :: a1 :: a2 :: a3 :: a4 :: a5 :: a6 :: b :: L) (i := 7) (by simp) (fun a _ h => by cases h; exact hx) h') hW hK))
theorem w_inc7 {a0 a1 a2 a3 a4 a5 a6 : Option Value} {x : Int32} {z : Int} (v : Int32) (hd : decode μ.2.1 pc = .ok (.iinc 7 z, 3)) (hv : Int32.ofInt z = v) (hn : pc + 3 = n) (hx : dk_nl a6 = true) (hi : 7 < μ.2.2.1) (k : dk_W d μ n (a0 :: a1 :: a2 :: a3 :: a4 :: a5 :: a6 :: some (.int (x + v)) :: L) st M Q) : dk_W d μ pc (a0 :: a1 :: a2 :: a3 :: a4 :: a5 :: a6 :: some (.int x) :: L) st M Q := by
  subst hn
  intro p l e R s m args below meth c H locs cells slots Z ls ad ca G A C hL hW hK
  obtain ⟨q, hq⟩ := List.getElem?_of_mem ((dk_prs_mem (ad := ad) (a0 :: a1 :: a2 :: a3 :: a4 :: a5 :: a6 :: some (.int x) :: L) 0 7 (.int x)).mpr ⟨7, .int x, rfl, rfl, rfl⟩)
  exact lv_iinc (v := x + v) C.1 C.2.1 hd hL hq (by rw [hv]) hi rfl (fun ls' h' => (k p l e R s m args below meth c H locs cells slots Z ls' ad ca G A C (dk_Lv.set (v := .int (x + v)) (L := a0 :: a1 :: a2 :: a3 :: a4 :: a5 :: a6 :: some (.int x) :: L) (i := 7) (by simp) (fun a _ h => by cases h; exact hx) h') hW hK))
theorem w_il8 {a0 a1 a2 a3 a4 a5 a6 a7 : Option Value} {x : Int32} (hd : decode μ.2.1 pc = .ok (.iload 8, 2)) (hn : pc + 2 = n) (k : dk_W d μ n (a0 :: a1 :: a2 :: a3 :: a4 :: a5 :: a6 :: a7 :: some (.int x) :: L) (.int x :: st) M Q) : dk_W d μ pc (a0 :: a1 :: a2 :: a3 :: a4 :: a5 :: a6 :: a7 :: some (.int x) :: L) st M Q := by
  subst hn
  exact fun p l e R s m args below meth c H locs cells slots Z ls ad ca G A C hL hW hK => lv_iload C.1 C.2.1 hd (hL.at (i := 8) rfl) (k p l e R s m args below meth c H locs cells slots Z ls ad ca G A C hL hW hK)
theorem w_al8 {a0 a1 a2 a3 a4 a5 a6 a7 : Option Value} {x : Nat} (hd : decode μ.2.1 pc = .ok (.aload 8, 2)) (hn : pc + 2 = n) (k : dk_W d μ n (a0 :: a1 :: a2 :: a3 :: a4 :: a5 :: a6 :: a7 :: some (.ref x) :: L) (.ref x :: st) M Q) : dk_W d μ pc (a0 :: a1 :: a2 :: a3 :: a4 :: a5 :: a6 :: a7 :: some (.ref x) :: L) st M Q := by
  subst hn
  exact fun p l e R s m args below meth c H locs cells slots Z ls ad ca G A C hL hW hK => lv_aload C.1 C.2.1 hd (hL.at (i := 8) rfl) (k p l e R s m args below meth c H locs cells slots Z ls ad ca G A C hL hW hK)
theorem w_is8 {a0 a1 a2 a3 a4 a5 a6 a7 : Option Value} {b : Option Value} {x : Int32} (hd : decode μ.2.1 pc = .ok (.istore 8, 2)) (hn : pc + 2 = n) (hx : dk_nl a7 = true) (hi : 8 < μ.2.2.1) (k : dk_W d μ n (a0 :: a1 :: a2 :: a3 :: a4 :: a5 :: a6 :: a7 :: some (.int x) :: L) st M Q) : dk_W d μ pc (a0 :: a1 :: a2 :: a3 :: a4 :: a5 :: a6 :: a7 :: b :: L) (.int x :: st) M Q := by
  subst hn
  exact fun p l e R s m args below meth c H locs cells slots Z ls ad ca G A C hL hW hK => lv_istore C.1 C.2.1 hd hL hi rfl (fun ls' h' => (k p l e R s m args below meth c H locs cells slots Z ls' ad ca G A C (dk_Lv.set (v := .int x) (L := a0 :: a1 :: a2 :: a3 :: a4 :: a5 :: a6 :: a7 :: b :: L) (i := 8) (by simp) (fun a _ h => by cases h; exact hx) h') hW hK))
theorem w_as8 {a0 a1 a2 a3 a4 a5 a6 a7 : Option Value} {b : Option Value} {x : Nat} (hd : decode μ.2.1 pc = .ok (.astore 8, 2)) (hn : pc + 2 = n) (hx : dk_nl a7 = true) (hi : 8 < μ.2.2.1) (k : dk_W d μ n (a0 :: a1 :: a2 :: a3 :: a4 :: a5 :: a6 :: a7 :: some (.ref x) :: L) st M Q) : dk_W d μ pc (a0 :: a1 :: a2 :: a3 :: a4 :: a5 :: a6 :: a7 :: b :: L) (.ref x :: st) M Q := by
  subst hn
  exact fun p l e R s m args below meth c H locs cells slots Z ls ad ca G A C hL hW hK => lv_astore C.1 C.2.1 hd hL hi rfl (fun ls' h' => (k p l e R s m args below meth c H locs cells slots Z ls' ad ca G A C (dk_Lv.set (v := .ref x) (L := a0 :: a1 :: a2 :: a3 :: a4 :: a5 :: a6 :: a7 :: b :: L) (i := 8) (by simp) (fun a _ h => by cases h; exact hx) h') hW hK))
theorem w_inc8 {a0 a1 a2 a3 a4 a5 a6 a7 : Option Value} {x : Int32} {z : Int} (v : Int32) (hd : decode μ.2.1 pc = .ok (.iinc 8 z, 3)) (hv : Int32.ofInt z = v) (hn : pc + 3 = n) (hx : dk_nl a7 = true) (hi : 8 < μ.2.2.1) (k : dk_W d μ n (a0 :: a1 :: a2 :: a3 :: a4 :: a5 :: a6 :: a7 :: some (.int (x + v)) :: L) st M Q) : dk_W d μ pc (a0 :: a1 :: a2 :: a3 :: a4 :: a5 :: a6 :: a7 :: some (.int x) :: L) st M Q := by
  subst hn
  intro p l e R s m args below meth c H locs cells slots Z ls ad ca G A C hL hW hK
  obtain ⟨q, hq⟩ := List.getElem?_of_mem ((dk_prs_mem (ad := ad) (a0 :: a1 :: a2 :: a3 :: a4 :: a5 :: a6 :: a7 :: some (.int x) :: L) 0 8 (.int x)).mpr ⟨8, .int x, rfl, rfl, rfl⟩)
  exact lv_iinc (v := x + v) C.1 C.2.1 hd hL hq (by rw [hv]) hi rfl (fun ls' h' => (k p l e R s m args below meth c H locs cells slots Z ls' ad ca G A C (dk_Lv.set (v := .int (x + v)) (L := a0 :: a1 :: a2 :: a3 :: a4 :: a5 :: a6 :: a7 :: some (.int x) :: L) (i := 8) (by simp) (fun a _ h => by cases h; exact hx) h') hW hK))
theorem w_il9 {a0 a1 a2 a3 a4 a5 a6 a7 a8 : Option Value} {x : Int32} (hd : decode μ.2.1 pc = .ok (.iload 9, 2)) (hn : pc + 2 = n) (k : dk_W d μ n (a0 :: a1 :: a2 :: a3 :: a4 :: a5 :: a6 :: a7 :: a8 :: some (.int x) :: L) (.int x :: st) M Q) : dk_W d μ pc (a0 :: a1 :: a2 :: a3 :: a4 :: a5 :: a6 :: a7 :: a8 :: some (.int x) :: L) st M Q := by
  subst hn
  exact fun p l e R s m args below meth c H locs cells slots Z ls ad ca G A C hL hW hK => lv_iload C.1 C.2.1 hd (hL.at (i := 9) rfl) (k p l e R s m args below meth c H locs cells slots Z ls ad ca G A C hL hW hK)
theorem w_al9 {a0 a1 a2 a3 a4 a5 a6 a7 a8 : Option Value} {x : Nat} (hd : decode μ.2.1 pc = .ok (.aload 9, 2)) (hn : pc + 2 = n) (k : dk_W d μ n (a0 :: a1 :: a2 :: a3 :: a4 :: a5 :: a6 :: a7 :: a8 :: some (.ref x) :: L) (.ref x :: st) M Q) : dk_W d μ pc (a0 :: a1 :: a2 :: a3 :: a4 :: a5 :: a6 :: a7 :: a8 :: some (.ref x) :: L) st M Q := by
  subst hn
  exact fun p l e R s m args below meth c H locs cells slots Z ls ad ca G A C hL hW hK => lv_aload C.1 C.2.1 hd (hL.at (i := 9) rfl) (k p l e R s m args below meth c H locs cells slots Z ls ad ca G A C hL hW hK)
theorem w_is9 {a0 a1 a2 a3 a4 a5 a6 a7 a8 : Option Value} {b : Option Value} {x : Int32} (hd : decode μ.2.1 pc = .ok (.istore 9, 2)) (hn : pc + 2 = n) (hx : dk_nl a8 = true) (hi : 9 < μ.2.2.1) (k : dk_W d μ n (a0 :: a1 :: a2 :: a3 :: a4 :: a5 :: a6 :: a7 :: a8 :: some (.int x) :: L) st M Q) : dk_W d μ pc (a0 :: a1 :: a2 :: a3 :: a4 :: a5 :: a6 :: a7 :: a8 :: b :: L) (.int x :: st) M Q := by
  subst hn
  exact fun p l e R s m args below meth c H locs cells slots Z ls ad ca G A C hL hW hK => lv_istore C.1 C.2.1 hd hL hi rfl (fun ls' h' => (k p l e R s m args below meth c H locs cells slots Z ls' ad ca G A C (dk_Lv.set (v := .int x) (L := a0 :: a1 :: a2 :: a3 :: a4 :: a5 :: a6 :: a7 :: a8 :: b :: L) (i := 9) (by simp) (fun a _ h => by cases h; exact hx) h') hW hK))
theorem w_as9 {a0 a1 a2 a3 a4 a5 a6 a7 a8 : Option Value} {b : Option Value} {x : Nat} (hd : decode μ.2.1 pc = .ok (.astore 9, 2)) (hn : pc + 2 = n) (hx : dk_nl a8 = true) (hi : 9 < μ.2.2.1) (k : dk_W d μ n (a0 :: a1 :: a2 :: a3 :: a4 :: a5 :: a6 :: a7 :: a8 :: some (.ref x) :: L) st M Q) : dk_W d μ pc (a0 :: a1 :: a2 :: a3 :: a4 :: a5 :: a6 :: a7 :: a8 :: b :: L) (.ref x :: st) M Q := by
  subst hn
  exact fun p l e R s m args below meth c H locs cells slots Z ls ad ca G A C hL hW hK => lv_astore C.1 C.2.1 hd hL hi rfl (fun ls' h' => (k p l e R s m args below meth c H locs cells slots Z ls' ad ca G A C (dk_Lv.set (v := .ref x) (L := a0 :: a1 :: a2 :: a3 :: a4 :: a5 :: a6 :: a7 :: a8 :: b :: L) (i := 9) (by simp) (fun a _ h => by cases h; exact hx) h') hW hK))
theorem w_inc9 {a0 a1 a2 a3 a4 a5 a6 a7 a8 : Option Value} {x : Int32} {z : Int} (v : Int32) (hd : decode μ.2.1 pc = .ok (.iinc 9 z, 3)) (hv : Int32.ofInt z = v) (hn : pc + 3 = n) (hx : dk_nl a8 = true) (hi : 9 < μ.2.2.1) (k : dk_W d μ n (a0 :: a1 :: a2 :: a3 :: a4 :: a5 :: a6 :: a7 :: a8 :: some (.int (x + v)) :: L) st M Q) : dk_W d μ pc (a0 :: a1 :: a2 :: a3 :: a4 :: a5 :: a6 :: a7 :: a8 :: some (.int x) :: L) st M Q := by
  subst hn
  intro p l e R s m args below meth c H locs cells slots Z ls ad ca G A C hL hW hK
  obtain ⟨q, hq⟩ := List.getElem?_of_mem ((dk_prs_mem (ad := ad) (a0 :: a1 :: a2 :: a3 :: a4 :: a5 :: a6 :: a7 :: a8 :: some (.int x) :: L) 0 9 (.int x)).mpr ⟨9, .int x, rfl, rfl, rfl⟩)
  exact lv_iinc (v := x + v) C.1 C.2.1 hd hL hq (by rw [hv]) hi rfl (fun ls' h' => (k p l e R s m args below meth c H locs cells slots Z ls' ad ca G A C (dk_Lv.set (v := .int (x + v)) (L := a0 :: a1 :: a2 :: a3 :: a4 :: a5 :: a6 :: a7 :: a8 :: some (.int x) :: L) (i := 9) (by simp) (fun a _ h => by cases h; exact hx) h') hW hK))
theorem w_il10 {a0 a1 a2 a3 a4 a5 a6 a7 a8 a9 : Option Value} {x : Int32} (hd : decode μ.2.1 pc = .ok (.iload 10, 2)) (hn : pc + 2 = n) (k : dk_W d μ n (a0 :: a1 :: a2 :: a3 :: a4 :: a5 :: a6 :: a7 :: a8 :: a9 :: some (.int x) :: L) (.int x :: st) M Q) : dk_W d μ pc (a0 :: a1 :: a2 :: a3 :: a4 :: a5 :: a6 :: a7 :: a8 :: a9 :: some (.int x) :: L) st M Q := by
  subst hn
  exact fun p l e R s m args below meth c H locs cells slots Z ls ad ca G A C hL hW hK => lv_iload C.1 C.2.1 hd (hL.at (i := 10) rfl) (k p l e R s m args below meth c H locs cells slots Z ls ad ca G A C hL hW hK)
theorem w_al10 {a0 a1 a2 a3 a4 a5 a6 a7 a8 a9 : Option Value} {x : Nat} (hd : decode μ.2.1 pc = .ok (.aload 10, 2)) (hn : pc + 2 = n) (k : dk_W d μ n (a0 :: a1 :: a2 :: a3 :: a4 :: a5 :: a6 :: a7 :: a8 :: a9 :: some (.ref x) :: L) (.ref x :: st) M Q) : dk_W d μ pc (a0 :: a1 :: a2 :: a3 :: a4 :: a5 :: a6 :: a7 :: a8 :: a9 :: some (.ref x) :: L) st M Q := by
  subst hn
  exact fun p l e R s m args below meth c H locs cells slots Z ls ad ca G A C hL hW hK => lv_aload C.1 C.2.1 hd (hL.at (i := 10) rfl) (k p l e R s m args below meth c H locs cells slots Z ls ad ca G A C hL hW hK)
theorem w_is10 {a0 a1 a2 a3 a4 a5 a6 a7 a8 a9 : Option Value} {b : Option Value} {x : Int32} (hd : decode μ.2.1 pc = .ok (.istore 10, 2)) (hn : pc + 2 = n) (hx : dk_nl a9 = true) (hi : 10 < μ.2.2.1) (k : dk_W d μ n (a0 :: a1 :: a2 :: a3 :: a4 :: a5 :: a6 :: a7 :: a8 :: a9 :: some (.int x) :: L) st M Q) : dk_W d μ pc (a0 :: a1 :: a2 :: a3 :: a4 :: a5 :: a6 :: a7 :: a8 :: a9 :: b :: L) (.int x :: st) M Q := by
  subst hn
  exact fun p l e R s m args below meth c H locs cells slots Z ls ad ca G A C hL hW hK => lv_istore C.1 C.2.1 hd hL hi rfl (fun ls' h' => (k p l e R s m args below meth c H locs cells slots Z ls' ad ca G A C (dk_Lv.set (v := .int x) (L := a0 :: a1 :: a2 :: a3 :: a4 :: a5 :: a6 :: a7 :: a8 :: a9 :: b :: L) (i := 10) (by simp) (fun a _ h => by cases h; exact hx) h') hW hK))
theorem w_as10 {a0 a1 a2 a3 a4 a5 a6 a7 a8 a9 : Option Value} {b : Option Value} {x : Nat} (hd : decode μ.2.1 pc = .ok (.astore 10, 2)) (hn : pc + 2 = n) (hx : dk_nl a9 = true) (hi : 10 < μ.2.2.1) (k : dk_W d μ n (a0 :: a1 :: a2 :: a3 :: a4 :: a5 :: a6 :: a7 :: a8 :: a9 :: some (.ref x) :: L) st M Q) : dk_W d μ pc (a0 :: a1 :: a2 :: a3 :: a4 :: a5 :: a6 :: a7 :: a8 :: a9 :: b :: L) (.ref x :: st) M Q := by
  subst hn
  exact fun p l e R s m args below meth c H locs cells slots Z ls ad ca G A C hL hW hK => lv_astore C.1 C.2.1 hd hL hi rfl (fun ls' h' => (k p l e R s m args below meth c H locs cells slots Z ls' ad ca G A C (dk_Lv.set (v := .ref x) (L := a0 :: a1 :: a2 :: a3 :: a4 :: a5 :: a6 :: a7 :: a8 :: a9 :: b :: L) (i := 10) (by simp) (fun a _ h => by cases h; exact hx) h') hW hK))
theorem w_inc10 {a0 a1 a2 a3 a4 a5 a6 a7 a8 a9 : Option Value} {x : Int32} {z : Int} (v : Int32) (hd : decode μ.2.1 pc = .ok (.iinc 10 z, 3)) (hv : Int32.ofInt z = v) (hn : pc + 3 = n) (hx : dk_nl a9 = true) (hi : 10 < μ.2.2.1) (k : dk_W d μ n (a0 :: a1 :: a2 :: a3 :: a4 :: a5 :: a6 :: a7 :: a8 :: a9 :: some (.int (x + v)) :: L) st M Q) : dk_W d μ pc (a0 :: a1 :: a2 :: a3 :: a4 :: a5 :: a6 :: a7 :: a8 :: a9 :: some (.int x) :: L) st M Q := by
  subst hn
  intro p l e R s m args below meth c H locs cells slots Z ls ad ca G A C hL hW hK
  obtain ⟨q, hq⟩ := List.getElem?_of_mem ((dk_prs_mem (ad := ad) (a0 :: a1 :: a2 :: a3 :: a4 :: a5 :: a6 :: a7 :: a8 :: a9 :: some (.int x) :: L) 0 10 (.int x)).mpr ⟨10, .int x, rfl, rfl, rfl⟩)
  exact lv_iinc (v := x + v) C.1 C.2.1 hd hL hq (by rw [hv]) hi rfl (fun ls' h' => (k p l e R s m args below meth c H locs cells slots Z ls' ad ca G A C (dk_Lv.set (v := .int (x + v)) (L := a0 :: a1 :: a2 :: a3 :: a4 :: a5 :: a6 :: a7 :: a8 :: a9 :: some (.int x) :: L) (i := 10) (by simp) (fun a _ h => by cases h; exact hx) h') hW hK))
theorem w_il11 {a0 a1 a2 a3 a4 a5 a6 a7 a8 a9 a10 : Option Value} {x : Int32} (hd : decode μ.2.1 pc = .ok (.iload 11, 2)) (hn : pc + 2 = n) (k : dk_W d μ n (a0 :: a1 :: a2 :: a3 :: a4 :: a5 :: a6 :: a7 :: a8 :: a9 :: a10 :: some (.int x) :: L) (.int x :: st) M Q) : dk_W d μ pc (a0 :: a1 :: a2 :: a3 :: a4 :: a5 :: a6 :: a7 :: a8 :: a9 :: a10 :: some (.int x) :: L) st M Q := by
  subst hn
  exact fun p l e R s m args below meth c H locs cells slots Z ls ad ca G A C hL hW hK => lv_iload C.1 C.2.1 hd (hL.at (i := 11) rfl) (k p l e R s m args below meth c H locs cells slots Z ls ad ca G A C hL hW hK)
theorem w_al11 {a0 a1 a2 a3 a4 a5 a6 a7 a8 a9 a10 : Option Value} {x : Nat} (hd : decode μ.2.1 pc = .ok (.aload 11, 2)) (hn : pc + 2 = n) (k : dk_W d μ n (a0 :: a1 :: a2 :: a3 :: a4 :: a5 :: a6 :: a7 :: a8 :: a9 :: a10 :: some (.ref x) :: L) (.ref x :: st) M Q) : dk_W d μ pc (a0 :: a1 :: a2 :: a3 :: a4 :: a5 :: a6 :: a7 :: a8 :: a9 :: a10 :: some (.ref x) :: L) st M Q := by
  subst hn
  exact fun p l e R s m args below meth c H locs cells slots Z ls ad ca G A C hL hW hK => lv_aload C.1 C.2.1 hd (hL.at (i := 11) rfl) (k p l e R s m args below meth c H locs cells slots Z ls ad ca G A C hL hW hK)
theorem w_is11 {a0 a1 a2 a3 a4 a5 a6 a7 a8 a9 a10 : Option Value} {b : Option Value} {x : Int32} (hd : decode μ.2.1 pc = .ok (.istore 11, 2)) (hn : pc + 2 = n) (hx : dk_nl a10 = true) (hi : 11 < μ.2.2.1) (k : dk_W d μ n (a0 :: a1 :: a2 :: a3 :: a4 :: a5 :: a6 :: a7 :: a8 :: a9 :: a10 :: some (.int x) :: L) st M Q) : dk_W d μ pc (a0 :: a1 :: a2 :: a3 :: a4 :: a5 :: a6 :: a7 :: a8 :: a9 :: a10 :: b :: L) (.int x :: st) M Q := by
  subst hn
  exact fun p l e R s m args below meth c H locs cells slots Z ls ad ca G A C hL hW hK => lv_istore C.1 C.2.1 hd hL hi rfl (fun ls' h' => (k p l e R s m args below meth c H locs cells slots Z ls' ad ca G A C (dk_Lv.set (v := .int x) (L := a0 :: a1 :: a2 :: a3 :: a4 :: a5 :: a6 :: a7 :: a8 :: a9 :: a10 :: b :: L) (i := 11) (by simp) (fun a _ h => by cases h; exact hx) h') hW hK))
theorem w_as11 {a0 a1 a2 a3 a4 a5 a6 a7 a8 a9 a10 : Option Value} {b : Option Value} {x : Nat} (hd : decode μ.2.1 pc = .ok (.astore 11, 2)) (hn : pc + 2 = n) (hx : dk_nl a10 = true) (hi : 11 < μ.2.2.1) (k : dk_W d μ n (a0 :: a1 :: a2 :: a3 :: a4 :: a5 :: a6 :: a7 :: a8 :: a9 :: a10 :: some (.ref x) :: L) st M Q) : dk_W d μ pc (a0 :: a1 :: a2 :: a3 :: a4 :: a5 :: a6 :: a7 :: a8 :: a9 :: a10 :: b :: L) (.ref x :: st) M Q := by
  subst hn
  exact fun p l e R s m args below meth c H locs cells slots Z ls ad ca G A C hL hW hK => lv_astore C.1 C.2.1 hd hL hi rfl (fun ls' h' => (k p l e R s m args below meth c H locs cells slots Z ls' ad ca G A C (dk_Lv.set (v := .ref x) (L := a0 :: a1 :: a2 :: a3 :: a4 :: a5 :: a6 :: a7 :: a8 :: a9 :: a10 :: b :: L) (i := 11) (by simp) (fun a _ h => by cases h; exact hx) h') hW hK))
theorem w_inc11 {a0 a1 a2 a3 a4 a5 a6 a7 a8 a9 a10 : Option Value} {x : Int32} {z : Int} (v : Int32) (hd : decode μ.2.1 pc = .ok (.iinc 11 z, 3)) (hv : Int32.ofInt z = v) (hn : pc + 3 = n) (hx : dk_nl a10 = true) (hi : 11 < μ.2.2.1) (k : dk_W d μ n (a0 :: a1 :: a2 :: a3 :: a4 :: a5 :: a6 :: a7 :: a8 :: a9 :: a10 :: some (.int (x + v)) :: L) st M Q) : dk_W d μ pc (a0 :: a1 :: a2 :: a3 :: a4 :: a5 :: a6 :: a7 :: a8 :: a9 :: a10 :: some (.int x) :: L) st M Q := by
  subst hn
  intro p l e R s m args below meth c H locs cells slots Z ls ad ca G A C hL hW hK
  obtain ⟨q, hq⟩ := List.getElem?_of_mem ((dk_prs_mem (ad := ad) (a0 :: a1 :: a2 :: a3 :: a4 :: a5 :: a6 :: a7 :: a8 :: a9 :: a10 :: some (.int x) :: L) 0 11 (.int x)).mpr ⟨11, .int x, rfl, rfl, rfl⟩)
  exact lv_iinc (v := x + v) C.1 C.2.1 hd hL hq (by rw [hv]) hi rfl (fun ls' h' => (k p l e R s m args below meth c H locs cells slots Z ls' ad ca G A C (dk_Lv.set (v := .int (x + v)) (L := a0 :: a1 :: a2 :: a3 :: a4 :: a5 :: a6 :: a7 :: a8 :: a9 :: a10 :: some (.int x) :: L) (i := 11) (by simp) (fun a _ h => by cases h; exact hx) h') hW hK))
theorem w_iret {x : Int32} {ty : FieldType} (hd : decode μ.2.1 pc = .ok (.ireturn, 1)) (hr : μ.2.2.2 = some ty) (hx : narrow ty (.int x) = .int x) (hq : Q (some (.int x)) M) : dk_W d μ pc L [.int x] M Q :=
  fun p l e R s m args below meth c H locs cells slots Z ls ad ca G A C hL hW hK => hK _ _ _ _ hq hW pc ls (Or.inr ⟨x, rfl, hd, ty, hr, hx⟩)
theorem w_ret (hd : decode μ.2.1 pc = .ok (.return_, 1)) (hr : μ.2.2.2 = none) (hq : Q none M) : dk_W d μ pc L [] M Q :=
  fun p l e R s m args below meth c H locs cells slots Z ls ad ca G A C hL hW hK => hK _ _ _ _ hq hW pc ls (Or.inl ⟨rfl, hd, hr⟩)
theorem w_retI {x : Int32} (hd : decode μ.2.1 pc = .ok (.ireturn, 1)) (hr : μ.2.2.2 = some .int) (hq : Q (some (.int x)) M) : dk_W d μ pc L [.int x] M Q := w_iret hd hr rfl hq
theorem w_retZ0 (hd : decode μ.2.1 pc = .ok (.ireturn, 1)) (hr : μ.2.2.2 = some .boolean) (hq : Q (some (.int 0)) M) : dk_W d μ pc L [.int 0] M Q := w_iret hd hr rfl hq
theorem w_retZ1 (hd : decode μ.2.1 pc = .ok (.ireturn, 1)) (hr : μ.2.2.2 = some .boolean) (hq : Q (some (.int 1)) M) : dk_W d μ pc L [.int 1] M Q := w_iret hd hr rfl hq
theorem dk_bool {x : Int32} (h : x = 0 ∨ x = 1) : narrow .boolean (.int x) = .int x := by rcases h with rfl | rfl <;> rfl
theorem w_retZ {x : Int32} (h : x = 0 ∨ x = 1) (hd : decode μ.2.1 pc = .ok (.ireturn, 1)) (hr : μ.2.2.2 = some .boolean) (hq : Q (some (.int x)) M) : dk_W d μ pc L [.int x] M Q := w_iret hd hr (dk_bool h) hq
theorem dk_same {ref own name desc : String} {args : Array Value} {s : State} (hts : ∀ w ∈ dk_T, w.before args s = true) (h : ref = own ∨ Cond.sameField ref own name desc ∈ dk_T) : ∀ x, s.fieldFound? own name desc = some x → s.fieldFound? ref name desc = some x := by
  rcases h with rfl | h
  · exact fun x h => h
  · exact u_same (hts _ h)
theorem w_getV {idx ci k p' : Nat} {fin : Bool} {ty : FieldType} (v : Value) (hf : dk_F μ.1.cls idx ci k fin ty) (hs : dk_is p' ci) (hv : ∀ ad, dk_fv ad M p' ci k = dk_rv ad v) (hd : decode μ.2.1 pc = .ok (.getfield idx, 3)) (hn : pc + 3 = n) (kk : dk_W d μ n L (v :: st) M Q) : dk_W d μ pc L (.ref p' :: st) M Q := by
  subst hn
  intro p l e R s m args below meth c H locs cells slots Z ls ad ca G A C hL hW hK
  obtain ⟨CN, T, N, ty0, ref, ⟨h1, h2, h3, h4, h5, h6⟩, hk, -, -, hl, hsm⟩ := hf
  obtain ⟨hx, hb, hml, hown, hts, -⟩ := id C
  exact va_get hx hb hts h4 hown hW.1 hW.2.1 p' (by rw [dk_ws_at hs.2, dk_cell_o hs.1 h3]) h1 k hk (hts _ hl) (dk_same hts hsm) (by rw [dk_fs_at (h2 ▸ hk), hv ad]) hd (kk p l e R s m args below meth c H locs cells slots Z ls ad ca G A C hL hW hK)
theorem w_gI {idx ci k p' : Nat} {fin : Bool} {ty : FieldType} (hf : dk_F μ.1.cls idx ci k fin ty) (ht : dk_ft ci k < 2) (hs : dk_is p' ci) (hd : decode μ.2.1 pc = .ok (.getfield idx, 3)) (hn : pc + 3 = n) (kk : dk_W d μ n L (.int (M.1 p' k) :: st) M Q) : dk_W d μ pc L (.ref p' :: st) M Q :=
  w_getV (.int (M.1 p' k)) hf hs (fun ad => by simp only [dk_fv, if_neg (show ¬ dk_ft ci k = 2 by omega), if_neg (show ¬ dk_ft ci k = 3 by omega)]; rfl) hd hn kk
theorem w_gR {idx ci k p' : Nat} {fin : Bool} {ty : FieldType} (q : Nat) (hf : dk_F μ.1.cls idx ci k fin ty) (ht : dk_ft ci k = 2) (hs : dk_is p' ci) (hq : dk_rf p' k = some q) (hd : decode μ.2.1 pc = .ok (.getfield idx, 3)) (hn : pc + 3 = n) (kk : dk_W d μ n L (.ref q :: st) M Q) : dk_W d μ pc L (.ref p' :: st) M Q :=
  w_getV (.ref q) hf hs (fun ad => by simp only [dk_fv, if_pos ht, hq]; rfl) hd hn kk
theorem w_gM {idx ci k p' : Nat} {fin : Bool} {ty : FieldType} (q : Nat) (hf : dk_F μ.1.cls idx ci k fin ty) (ht : dk_ft ci k = 3) (hs : dk_is p' ci) (hq : dk_ref M p' k = some q) (hd : decode μ.2.1 pc = .ok (.getfield idx, 3)) (hn : pc + 3 = n) (kk : dk_W d μ n L (.ref q :: st) M Q) : dk_W d μ pc L (.ref p' :: st) M Q :=
  w_getV (.ref q) hf hs (fun ad => by simp only [dk_fv, if_neg (show ¬ dk_ft ci k = 2 by omega), if_pos ht, hq]; rfl) hd hn kk
theorem w_gMn {idx ci k p' : Nat} {fin : Bool} {ty : FieldType} (hf : dk_F μ.1.cls idx ci k fin ty) (ht : dk_ft ci k = 3) (hs : dk_is p' ci) (hq : dk_ref M p' k = none) (hd : decode μ.2.1 pc = .ok (.getfield idx, 3)) (hn : pc + 3 = n) (kk : dk_W d μ n L (.null :: st) M Q) : dk_W d μ pc L (.ref p' :: st) M Q :=
  w_getV .null hf hs (fun ad => by simp only [dk_fv, if_neg (show ¬ dk_ft ci k = 2 by omega), if_pos ht, hq]; rfl) hd hn kk
theorem w_putV {idx ci k p' : Nat} {ty : FieldType} (v : Value) (x : Int32) (hf : dk_F μ.1.cls idx ci k false ty) (hs : dk_is p' ci) (hv : ∀ ad, dk_fv ad (dk_put M p' k x) p' ci k = dk_rv ad v) (hnr : ∀ ad, narrow ty (dk_rv ad v) = dk_rv ad v) (hfit : ∀ ad, fits ty (dk_rv ad v) = true) (hd : decode μ.2.1 pc = .ok (.putfield idx, 3)) (hn : pc + 3 = n) (kk : dk_W d μ n L st (dk_put M p' k x) Q) : dk_W d μ pc L (v :: .ref p' :: st) M Q := by
  subst hn
  intro p l e R s m args below meth c H locs cells slots Z ls ad ca G A C hL hW hK
  obtain ⟨CN, T, N, ty0, ref, ⟨h1, h2, h3, h4, h5, h6⟩, hk, hfin, hty, hl, hsm⟩ := hf
  obtain ⟨hx, hb, hml, hown, hts, -⟩ := id C
  obtain ⟨wK, wP, wD, wS, wSt⟩ := hW
  refine va_put hx hb hts h4 ty0 h5 h6 hown wK wP wD wS p' (by rw [dk_ws_at hs.2, dk_cell_o hs.1 h3]) h1 k hk (hts _ hl) (dk_same hts hsm) hfin (by rw [h5 k hk, hty]) (hnr ad) (hfit ad) (by rw [dk_fs_len, ← h2]; exact hk) hd (fun H1 locs1 g1 g2 g3 => ?_)
  have he : (dk_ws ad ca M).set p' (ad p', .inr (ci, (dk_fs ad M p' ci).set k (dk_rv ad v))) = dk_ws ad ca (dk_put M p' k x) := by
    refine dk_ws_set hs.2 ?_ (fun q hq => dk_cell_congr (dk_put_ne hq) rfl)
    rw [dk_cell_o hs.1 h3, ← hv ad, dk_fs_set (h2 ▸ hk) (fun j _ hj => dk_fv_ne hj)]
  rw [he] at g1 g2
  exact kk p l e R s m args below meth c H1 locs1 cells slots Z ls ad ca G A C hL ⟨wK, g1, g2, g3, wSt⟩ hK
theorem w_pI {idx ci k p' : Nat} {x : Int32} (hf : dk_F μ.1.cls idx ci k false .int) (ht : dk_ft ci k < 2) (hs : dk_is p' ci) (hd : decode μ.2.1 pc = .ok (.putfield idx, 3)) (hn : pc + 3 = n) (kk : dk_W d μ n L st (dk_put M p' k x) Q) : dk_W d μ pc L (.int x :: .ref p' :: st) M Q :=
  w_putV (.int x) x hf hs (fun ad => by simp only [dk_fv, if_neg (show ¬ dk_ft ci k = 2 by omega), if_neg (show ¬ dk_ft ci k = 3 by omega)]; simp [dk_put, dk_rv]) (fun ad => rfl) (fun ad => rfl) hd hn kk
theorem w_pZ {idx ci k p' : Nat} {x : Int32} (h01 : x = 0 ∨ x = 1) (hf : dk_F μ.1.cls idx ci k false .boolean) (ht : dk_ft ci k < 2) (hs : dk_is p' ci) (hd : decode μ.2.1 pc = .ok (.putfield idx, 3)) (hn : pc + 3 = n) (kk : dk_W d μ n L st (dk_put M p' k x) Q) : dk_W d μ pc L (.int x :: .ref p' :: st) M Q :=
  w_putV (.int x) x hf hs (fun ad => by simp only [dk_fv, if_neg (show ¬ dk_ft ci k = 2 by omega), if_neg (show ¬ dk_ft ci k = 3 by omega)]; simp [dk_put, dk_rv]) (fun ad => dk_bool h01) (fun ad => by rcases h01 with rfl | rfl <;> rfl) hd hn kk
theorem w_pR {idx ci k p' q : Nat} {C0 : String} (hq : q < 2 ^ 31) (hf : dk_F μ.1.cls idx ci k false (.object C0)) (ht : dk_ft ci k = 3) (hs : dk_is p' ci) (hd : decode μ.2.1 pc = .ok (.putfield idx, 3)) (hn : pc + 3 = n) (kk : dk_W d μ n L st (dk_put M p' k (nI q)) Q) : dk_W d μ pc L (.ref q :: .ref p' :: st) M Q :=
  w_putV (.ref q) (nI q) hf hs (fun ad => by simp only [dk_fv, if_neg (show ¬ dk_ft ci k = 2 by omega), if_pos ht]; simp [dk_put, dk_rv, dk_ref, nI_pos hq, nI_clamp hq, va_rf]) (fun ad => rfl) (fun ad => rfl) hd hn kk
theorem w_pN {idx ci k p' : Nat} {C0 : String} (hf : dk_F μ.1.cls idx ci k false (.object C0)) (ht : dk_ft ci k = 3) (hs : dk_is p' ci) (hd : decode μ.2.1 pc = .ok (.putfield idx, 3)) (hn : pc + 3 = n) (kk : dk_W d μ n L st (dk_put M p' k (-1)) Q) : dk_W d μ pc L (.null :: .ref p' :: st) M Q :=
  w_putV .null (-1) hf hs (fun ad => by simp only [dk_fv, if_neg (show ¬ dk_ft ci k = 2 by omega), if_pos ht]; simp [dk_put, dk_rv, dk_ref, va_rf]) (fun ad => rfl) (fun ad => rfl) hd hn kk
theorem w_iald {p' N : Nat} {i : Int32} (hs : dk_ar p' 20 N) (hin : vp_in i N) (hd : decode μ.2.1 pc = .ok (.iaload, 1)) (hn : pc + 1 = n) (kk : dk_W d μ n L (.int (M.1 p' i.toNatClampNeg) :: st) M Q) : dk_W d μ pc L (.int i :: .ref p' :: st) M Q := by
  subst hn
  exact fun p l e R s m args below meth c H locs cells slots Z ls ad ca G A C hL hW hK => va_iald C.1 C.2.1 hW.1 hW.2.1 p' 0 (by rw [dk_ws_at hs.2.1, dk_cell_i hs.1 (by decide) (by decide)]) rfl (by rw [hs.2.2]; exact hin) hd (kk p l e R s m args below meth c H locs cells slots Z ls ad ca G A C hL hW hK)
theorem w_bald {p' N : Nat} {i : Int32} (hs : dk_ar p' 21 N) (hin : vp_in i N) (hd : decode μ.2.1 pc = .ok (.baload, 1)) (hn : pc + 1 = n) (kk : dk_W d μ n L (.int (M.1 p' i.toNatClampNeg) :: st) M Q) : dk_W d μ pc L (.int i :: .ref p' :: st) M Q := by
  subst hn
  exact fun p l e R s m args below meth c H locs cells slots Z ls ad ca G A C hL hW hK => va_bald C.1 C.2.1 hW.1 hW.2.1 p' 1 (by rw [dk_ws_at hs.2.1, dk_cell_i hs.1 (by decide) (by decide)]) rfl (by rw [hs.2.2]; exact hin) hd (kk p l e R s m args below meth c H locs cells slots Z ls ad ca G A C hL hW hK)
theorem w_zald {p' N : Nat} {i : Int32} (hs : dk_ar p' 22 N) (hin : vp_in i N) (hd : decode μ.2.1 pc = .ok (.baload, 1)) (hn : pc + 1 = n) (kk : dk_W d μ n L (.int (M.1 p' i.toNatClampNeg) :: st) M Q) : dk_W d μ pc L (.int i :: .ref p' :: st) M Q := by
  subst hn
  exact fun p l e R s m args below meth c H locs cells slots Z ls ad ca G A C hL hW hK => va_zald C.1 C.2.1 hW.1 hW.2.1 p' 2 (by rw [dk_ws_at hs.2.1, dk_cell_i hs.1 (by decide) (by decide)]) rfl (by rw [hs.2.2]; exact hin) hd (kk p l e R s m args below meth c H locs cells slots Z ls ad ca G A C hL hW hK)
theorem w_lald {p' N : Nat} {i : Int32} (hs : dk_ar p' 23 N) (hin : vp_in i N) (hd : decode μ.2.1 pc = .ok (.laload, 1)) (hn : pc + 1 = n) (kk : dk_W d μ n L (.long (M.2 p' i.toNatClampNeg) :: st) M Q) : dk_W d μ pc L (.int i :: .ref p' :: st) M Q := by
  subst hn
  exact fun p l e R s m args below meth c H locs cells slots Z ls ad ca G A C hL hW hK => va_lald C.1 C.2.1 hW.1 hW.2.1 p' 3 (by rw [dk_ws_at hs.2.1, dk_cell_l hs.1]) rfl (by rw [hs.2.2]; exact hin) hd (kk p l e R s m args below meth c H locs cells slots Z ls ad ca G A C hL hW hK)
theorem w_aaldM {p' N : Nat} {i : Int32} (q : Nat) (hs : dk_ar p' 24 N) (hin : vp_in i N) (hq : dk_rf p' i.toNatClampNeg = some q) (hd : decode μ.2.1 pc = .ok (.aaload, 1)) (hn : pc + 1 = n) (kk : dk_W d μ n L (.ref q :: st) M Q) : dk_W d μ pc L (.int i :: .ref p' :: st) M Q := by
  subst hn
  intro p l e R s m args below meth c H locs cells slots Z ls ad ca G A C hL hW hK
  have ha : (dk_ws ad ca M)[p']? = some (ad p', .inl (ca 24, dk_len p', .inr (.inr (.inr (.inr (fun i => (dk_rf p' i).map ad)))))) := by rw [dk_ws_at hs.2.1, dk_cell_q hs.1 (by decide)]
  have hin2 : vp_in i (dk_len p') := by rw [hs.2.2]; exact hin
  have hlt : i.toNatClampNeg < dk_len p' := Nat.not_le.mp fun q => hin2 (Or.inr q)
  refine W.aald (v := .ref (ad q)) (ty := .object "DominoKin$Moment") C.1 C.2.1 (hW.2.1 p' _ ha) ((hW.1.2 4 _ rfl).1 (dk_len p') (fun j => va_rf ((dk_rf p' j).map ad))) rfl (fun q => by cases q) (by show ¬ (i < 0 ∨ (arrV _ _ _).slots.size ≤ _); rw [arrV_size]; exact hin2) (by show (arrV _ _ _).slots[_]? = _; rw [arrV_read _ _ hlt]; show some (va_rf (Option.map ad (dk_rf p' i.toNatClampNeg))) = _; rw [hq]; rfl) rfl rfl hd (kk p l e R s m args below meth c H locs cells slots Z ls ad ca G A C hL hW hK)
theorem w_aaldP {p' N : Nat} {i : Int32} (q : Nat) (hs : dk_ar p' 25 N) (hin : vp_in i N) (hq : dk_rf p' i.toNatClampNeg = some q) (hd : decode μ.2.1 pc = .ok (.aaload, 1)) (hn : pc + 1 = n) (kk : dk_W d μ n L (.ref q :: st) M Q) : dk_W d μ pc L (.int i :: .ref p' :: st) M Q := by
  subst hn
  intro p l e R s m args below meth c H locs cells slots Z ls ad ca G A C hL hW hK
  have ha : (dk_ws ad ca M)[p']? = some (ad p', .inl (ca 25, dk_len p', .inr (.inr (.inr (.inr (fun i => (dk_rf p' i).map ad)))))) := by rw [dk_ws_at hs.2.1, dk_cell_q hs.1 (by decide)]
  have hin2 : vp_in i (dk_len p') := by rw [hs.2.2]; exact hin
  have hlt : i.toNatClampNeg < dk_len p' := Nat.not_le.mp fun q => hin2 (Or.inr q)
  refine W.aald (v := .ref (ad q)) (ty := .object "DominoKin$Piece") C.1 C.2.1 (hW.2.1 p' _ ha) ((hW.1.2 5 _ rfl).1 (dk_len p') (fun j => va_rf ((dk_rf p' j).map ad))) rfl (fun q => by cases q) (by show ¬ (i < 0 ∨ (arrV _ _ _).slots.size ≤ _); rw [arrV_size]; exact hin2) (by show (arrV _ _ _).slots[_]? = _; rw [arrV_read _ _ hlt]; show some (va_rf (Option.map ad (dk_rf p' i.toNatClampNeg))) = _; rw [hq]; rfl) rfl rfl hd (kk p l e R s m args below meth c H locs cells slots Z ls ad ca G A C hL hW hK)
theorem w_aaldI {p' N : Nat} {i : Int32} (q : Nat) (hs : dk_ar p' 26 N) (hin : vp_in i N) (hq : dk_rf p' i.toNatClampNeg = some q) (hd : decode μ.2.1 pc = .ok (.aaload, 1)) (hn : pc + 1 = n) (kk : dk_W d μ n L (.ref q :: st) M Q) : dk_W d μ pc L (.int i :: .ref p' :: st) M Q := by
  subst hn
  intro p l e R s m args below meth c H locs cells slots Z ls ad ca G A C hL hW hK
  have ha : (dk_ws ad ca M)[p']? = some (ad p', .inl (ca 26, dk_len p', .inr (.inr (.inr (.inr (fun i => (dk_rf p' i).map ad)))))) := by rw [dk_ws_at hs.2.1, dk_cell_q hs.1 (by decide)]
  have hin2 : vp_in i (dk_len p') := by rw [hs.2.2]; exact hin
  have hlt : i.toNatClampNeg < dk_len p' := Nat.not_le.mp fun q => hin2 (Or.inr q)
  refine W.aald (v := .ref (ad q)) (ty := .array .int) C.1 C.2.1 (hW.2.1 p' _ ha) ((hW.1.2 6 _ rfl).1 (dk_len p') (fun j => va_rf ((dk_rf p' j).map ad))) rfl (fun q => by cases q) (by show ¬ (i < 0 ∨ (arrV _ _ _).slots.size ≤ _); rw [arrV_size]; exact hin2) (by show (arrV _ _ _).slots[_]? = _; rw [arrV_read _ _ hlt]; show some (va_rf (Option.map ad (dk_rf p' i.toNatClampNeg))) = _; rw [hq]; rfl) rfl rfl hd (kk p l e R s m args below meth c H locs cells slots Z ls ad ca G A C hL hW hK)
theorem w_iast {p' N : Nat} {i x : Int32} (hs : dk_ar p' 20 N) (hin : vp_in i N) (hd : decode μ.2.1 pc = .ok (.iastore, 1)) (hn : pc + 1 = n) (kk : dk_W d μ n L st (dk_put M p' i.toNatClampNeg x) Q) : dk_W d μ pc L (.int x :: .int i :: .ref p' :: st) M Q := by
  subst hn
  intro p l e R s m args below meth c H locs cells slots Z ls ad ca G A C hL hW hK
  obtain ⟨wK, wP, wD, wS, wSt⟩ := hW
  refine va_iast C.1 C.2.1 wK wP wD wS p' 0 (by rw [dk_ws_at hs.2.1, dk_cell_i hs.1 (by decide) (by decide)]) rfl (by rw [hs.2.2]; exact hin) hd (fun H1 locs1 g1 g2 g3 => ?_)
  rw [dk_ws_set (M' := dk_put M p' i.toNatClampNeg x) hs.2.1 (by rw [dk_cell_i hs.1 (by decide) (by decide), dk_put_self]) (fun q hq => dk_cell_congr (dk_put_ne hq) rfl)] at g1 g2
  exact kk p l e R s m args below meth c H1 locs1 cells slots Z ls ad ca G A C hL ⟨wK, g1, g2, g3, wSt⟩ hK
theorem w_bast {p' N : Nat} {i x : Int32} (hs : dk_ar p' 21 N) (hin : vp_in i N) (hd : decode μ.2.1 pc = .ok (.bastore, 1)) (hn : pc + 1 = n) (kk : dk_W d μ n L st (dk_put M p' i.toNatClampNeg (vp_nar .byte x)) Q) : dk_W d μ pc L (.int x :: .int i :: .ref p' :: st) M Q := by
  subst hn
  intro p l e R s m args below meth c H locs cells slots Z ls ad ca G A C hL hW hK
  obtain ⟨wK, wP, wD, wS, wSt⟩ := hW
  refine va_bast C.1 C.2.1 wK wP wD wS p' 1 (by rw [dk_ws_at hs.2.1, dk_cell_i hs.1 (by decide) (by decide)]) rfl (by rw [hs.2.2]; exact hin) hd (fun H1 locs1 g1 g2 g3 => ?_)
  rw [dk_ws_set (M' := dk_put M p' i.toNatClampNeg (vp_nar .byte x)) hs.2.1 (by rw [dk_cell_i hs.1 (by decide) (by decide), dk_put_self]) (fun q hq => dk_cell_congr (dk_put_ne hq) rfl)] at g1 g2
  exact kk p l e R s m args below meth c H1 locs1 cells slots Z ls ad ca G A C hL ⟨wK, g1, g2, g3, wSt⟩ hK
theorem w_zast {p' N : Nat} {i x : Int32} (hs : dk_ar p' 22 N) (hin : vp_in i N) (hd : decode μ.2.1 pc = .ok (.bastore, 1)) (hn : pc + 1 = n) (kk : dk_W d μ n L st (dk_put M p' i.toNatClampNeg (vp_nar .boolean x)) Q) : dk_W d μ pc L (.int x :: .int i :: .ref p' :: st) M Q := by
  subst hn
  intro p l e R s m args below meth c H locs cells slots Z ls ad ca G A C hL hW hK
  obtain ⟨wK, wP, wD, wS, wSt⟩ := hW
  refine va_zast C.1 C.2.1 wK wP wD wS p' 2 (by rw [dk_ws_at hs.2.1, dk_cell_i hs.1 (by decide) (by decide)]) rfl (by rw [hs.2.2]; exact hin) hd (fun H1 locs1 g1 g2 g3 => ?_)
  rw [dk_ws_set (M' := dk_put M p' i.toNatClampNeg (vp_nar .boolean x)) hs.2.1 (by rw [dk_cell_i hs.1 (by decide) (by decide), dk_put_self]) (fun q hq => dk_cell_congr (dk_put_ne hq) rfl)] at g1 g2
  exact kk p l e R s m args below meth c H1 locs1 cells slots Z ls ad ca G A C hL ⟨wK, g1, g2, g3, wSt⟩ hK
theorem w_last {p' N : Nat} {i : Int32} {x : Int64} (hs : dk_ar p' 23 N) (hin : vp_in i N) (hd : decode μ.2.1 pc = .ok (.lastore, 1)) (hn : pc + 1 = n) (kk : dk_W d μ n L st (dk_putL M p' i.toNatClampNeg x) Q) : dk_W d μ pc L (.long x :: .int i :: .ref p' :: st) M Q := by
  subst hn
  intro p l e R s m args below meth c H locs cells slots Z ls ad ca G A C hL hW hK
  obtain ⟨wK, wP, wD, wS, wSt⟩ := hW
  refine va_last C.1 C.2.1 wK wP wD wS p' 3 (by rw [dk_ws_at hs.2.1, dk_cell_l hs.1]) rfl (by rw [hs.2.2]; exact hin) hd (fun H1 locs1 g1 g2 g3 => ?_)
  rw [dk_ws_set (ad := ad) (ca := ca) (M := M) (M' := dk_putL M p' i.toNatClampNeg x) hs.2.1 (by rw [dk_cell_l hs.1, dk_putL_self]) (fun q hq => dk_cell_congr rfl (dk_putL_ne hq))] at g1 g2
  exact kk p l e R s m args below meth c H1 locs1 cells slots Z ls ad ca G A C hL ⟨wK, g1, g2, g3, wSt⟩ hK
theorem w_alen {p' N t : Nat} (hs : dk_ar p' t N) (ht : 20 ≤ t ∧ t < 23) (hd : decode μ.2.1 pc = .ok (.arraylength, 1)) (hn : pc + 1 = n) (kk : dk_W d μ n L (.int (nI N) :: st) M Q) : dk_W d μ pc L (.ref p' :: st) M Q := by
  subst hn
  intro p l e R s m args below meth c H locs cells slots Z ls ad ca G A C hL hW hK
  obtain ⟨h1, h2, h3⟩ := hs
  rcases (show t = 20 ∨ t = 21 ∨ t = 22 by omega) with rfl | rfl | rfl
  · exact va_alen C.1 C.2.1 hW.1 hW.2.1 p' 0 (by rw [dk_ws_at h2, dk_cell_i h1 (by decide) (by decide)]) rfl (v := nI N) (by rw [← h3]; rfl) hd (kk p l e R s m args below meth c H locs cells slots Z ls ad ca G A C hL hW hK)
  · exact va_alen C.1 C.2.1 hW.1 hW.2.1 p' 1 (by rw [dk_ws_at h2, dk_cell_i h1 (by decide) (by decide)]) rfl (v := nI N) (by rw [← h3]; rfl) hd (kk p l e R s m args below meth c H locs cells slots Z ls ad ca G A C hL hW hK)
  · exact va_alen C.1 C.2.1 hW.1 hW.2.1 p' 2 (by rw [dk_ws_at h2, dk_cell_i h1 (by decide) (by decide)]) rfl (v := nI N) (by rw [← h3]; rfl) hd (kk p l e R s m args below meth c H locs cells slots Z ls ad ca G A C hL hW hK)
theorem w_cpy {p0 p1 N0 N1 idx : Nat} {sp dp z : Int32} (h0 : dk_ar p0 20 N0) (h1 : dk_ar p1 20 N1) (hl : Cond.methodLink μ.1.cls idx arraycopyName ∈ dk_T) (g1 : ¬ sp < 0) (g2 : ¬ dp < 0) (g3 : ¬ z < 0) (g4 : sp.toNatClampNeg + z.toNatClampNeg ≤ N0) (g5 : dp.toNatClampNeg + z.toNatClampNeg ≤ N1) (hc : (st.map Value.category).sum ≤ 8) (hd : decode μ.2.1 pc = .ok (.invokestatic idx, 3)) (hn : pc + 3 = n)
    (kk : dk_W (d + 1) μ n L st (dk_row M p1 (va_cpy (M.1 p0) (M.1 p1) sp.toNatClampNeg dp.toNatClampNeg z.toNatClampNeg)) Q) : dk_W (d + 1) μ pc L (.int z :: .int dp :: .ref p1 :: .int sp :: .ref p0 :: st) M Q := by
  subst hn
  intro p l e R s m args below meth c H locs cells slots Z ls ad ca G A C hL hW hK
  obtain ⟨wK, wP, wD, wS, wSt⟩ := hW
  obtain ⟨hx, hb, hml, hown, hts, hf1, hf2, -⟩ := id C
  have hcs : ((st.map (dk_rv ad)).map fun v => v.category) = st.map Value.category := by rw [List.map_map]; exact List.map_congr_left (fun v _ => dk_rv_cat ad v)
  refine va_copyi hx hb (by rw [hml, hL.1]) hown (hts _ hl) (hts _ dk_w_acn) (hts _ dk_w_acs) (hts _ dk_w_sys) wK wP wD wS p0 p1 0 0 (by rw [dk_ws_at h0.2.1, dk_cell_i h0.1 (by decide) (by decide)]) (by rw [dk_ws_at h1.2.1, dk_cell_i h1.1 (by decide) (by decide)]) rfl rfl rfl g1 g2 g3 (by rw [h0.2.2]; exact g4) (by rw [h1.2.2]; exact g5) (fun i _ => rfl) (by omega) (by rw [hcs]; have := dk_nfw; omega) hd (fun H1 locs1 k1 k2 k3 => ?_)
  rw [dk_ws_set (M' := dk_row M p1 (va_cpy (M.1 p0) (M.1 p1) sp.toNatClampNeg dp.toNatClampNeg z.toNatClampNeg)) h1.2.1 (by rw [dk_cell_i h1.1 (by decide) (by decide), dk_row_self]) (fun q hq => dk_cell_congr (dk_row_ne hq) rfl)] at k1 k2
  exact kk p l e R s m args below meth c H1 locs1 cells slots Z ls ad ca G A C hL ⟨wK, k1, k2, k3, wSt⟩ hK
end DKR
