theorem P_iconst {G : GX} {own nm : String} {cc : ByteArray} {nL : Nat} {ret : Option FieldType} {d kc ks : Nat} {Q : Option Value → Shp → Mem → Prop} {pc pc' : Nat} {ls : List (Option Value)} {rest : List Value} {S : Shp} {I : Mem} {n : Int} {v : Int32} (hd : decode cc pc = .ok (.iconst n, 1)) (hp : pc + 1 = pc') (hv : Int32.ofInt n = v) (k : PW G own nm cc nL ret d kc ks Q pc' ls (.int v :: rest) S I) : PW G own nm cc nL ret d kc ks Q pc ls rest S I := by
  subst hp
  intro p e R s m args below meth c H locs cells slots arr hC
  exact lv_iconst hC.1 hC.2.1 hd hv (k p e R s m args below meth c H locs cells slots arr hC)
theorem P_bipush {G : GX} {own nm : String} {cc : ByteArray} {nL : Nat} {ret : Option FieldType} {d kc ks : Nat} {Q : Option Value → Shp → Mem → Prop} {pc pc' : Nat} {ls : List (Option Value)} {rest : List Value} {S : Shp} {I : Mem} {n : Int} {v : Int32} (hd : decode cc pc = .ok (.bipush n, 2)) (hp : pc + 2 = pc') (hv : (Int8.ofInt n).toInt32 = v) (k : PW G own nm cc nL ret d kc ks Q pc' ls (.int v :: rest) S I) : PW G own nm cc nL ret d kc ks Q pc ls rest S I := by
  subst hp
  intro p e R s m args below meth c H locs cells slots arr hC
  exact lv_bipush hC.1 hC.2.1 hd hv (k p e R s m args below meth c H locs cells slots arr hC)
theorem P_sipush {G : GX} {own nm : String} {cc : ByteArray} {nL : Nat} {ret : Option FieldType} {d kc ks : Nat} {Q : Option Value → Shp → Mem → Prop} {pc pc' : Nat} {ls : List (Option Value)} {rest : List Value} {S : Shp} {I : Mem} {n : Int} {v : Int32} (hd : decode cc pc = .ok (.sipush n, 3)) (hp : pc + 3 = pc') (hv : (Int16.ofInt n).toInt32 = v) (k : PW G own nm cc nL ret d kc ks Q pc' ls (.int v :: rest) S I) : PW G own nm cc nL ret d kc ks Q pc ls rest S I := by
  subst hp
  intro p e R s m args below meth c H locs cells slots arr hC
  exact lv_sipush hC.1 hC.2.1 hd hv (k p e R s m args below meth c H locs cells slots arr hC)
theorem P_lconst {G : GX} {own nm : String} {cc : ByteArray} {nL : Nat} {ret : Option FieldType} {d kc ks : Nat} {Q : Option Value → Shp → Mem → Prop} {pc pc' : Nat} {ls : List (Option Value)} {rest : List Value} {S : Shp} {I : Mem} {n : Fin 2} {v : Int64} (hd : decode cc pc = .ok (.lconst n, 1)) (hp : pc + 1 = pc') (hv : Int64.ofNat (n : Nat) = v) (k : PW G own nm cc nL ret d kc ks Q pc' ls (.long v :: rest) S I) : PW G own nm cc nL ret d kc ks Q pc ls rest S I := by
  subst hp
  intro p e R s m args below meth c H locs cells slots arr hC
  exact lv_lconst hC.1 hC.2.1 hd hv (k p e R s m args below meth c H locs cells slots arr hC)
theorem P_null {G : GX} {own nm : String} {cc : ByteArray} {nL : Nat} {ret : Option FieldType} {d kc ks : Nat} {Q : Option Value → Shp → Mem → Prop} {pc pc' : Nat} {ls : List (Option Value)} {rest : List Value} {S : Shp} {I : Mem}  (hd : decode cc pc = .ok (.aconst_null, 1)) (hp : pc + 1 = pc')  (k : PW G own nm cc nL ret d kc ks Q pc' ls (.null :: rest) S I) : PW G own nm cc nL ret d kc ks Q pc ls rest S I := by
  subst hp
  intro p e R s m args below meth c H locs cells slots arr hC
  exact lv_null hC.1 hC.2.1 hd (k p e R s m args below meth c H locs cells slots arr hC)
theorem P_ldc {G : GX} {own nm : String} {cc : ByteArray} {nL : Nat} {ret : Option FieldType} {d kc ks : Nat} {Q : Option Value → Shp → Mem → Prop} {pc pc' : Nat} {ls : List (Option Value)} {rest : List Value} {S : Shp} {I : Mem} {x : Nat} {v : Int32} (hd : decode cc pc = .ok (.ldc x, 2)) (hp : pc + 2 = pc') (hw : Cond.constant own x v ∈ lw_tbl) (k : PW G own nm cc nL ret d kc ks Q pc' ls (.int v :: rest) S I) : PW G own nm cc nL ret d kc ks Q pc ls rest S I := by
  subst hp
  intro p e R s m args below meth c H locs cells slots arr hC
  exact lv_ldc hC.1 hC.2.1 hC.2.2.2.2.1 (hC.2.2.2.2.2.2.2.1 _ (lw_in hw rfl)) hd (k p e R s m args below meth c H locs cells slots arr hC)
theorem P_ldcw {G : GX} {own nm : String} {cc : ByteArray} {nL : Nat} {ret : Option FieldType} {d kc ks : Nat} {Q : Option Value → Shp → Mem → Prop} {pc pc' : Nat} {ls : List (Option Value)} {rest : List Value} {S : Shp} {I : Mem} {x : Nat} {v : Int32} (hd : decode cc pc = .ok (.ldc_w x, 3)) (hp : pc + 3 = pc') (hw : Cond.constant own x v ∈ lw_tbl) (k : PW G own nm cc nL ret d kc ks Q pc' ls (.int v :: rest) S I) : PW G own nm cc nL ret d kc ks Q pc ls rest S I := by
  subst hp
  intro p e R s m args below meth c H locs cells slots arr hC
  exact lv_ldcw hC.1 hC.2.1 hC.2.2.2.2.1 (hC.2.2.2.2.2.2.2.1 _ (lw_in hw rfl)) hd (k p e R s m args below meth c H locs cells slots arr hC)
theorem P_iadd {G : GX} {own nm : String} {cc : ByteArray} {nL : Nat} {ret : Option FieldType} {d kc ks : Nat} {Q : Option Value → Shp → Mem → Prop} {pc pc' : Nat} {ls : List (Option Value)} {rest : List Value} {S : Shp} {I : Mem} {x y : Int32} (hd : decode cc pc = .ok (.iadd, 1)) (hp : pc + 1 = pc')  (k : PW G own nm cc nL ret d kc ks Q pc' ls (.int (x + y) :: rest) S I) : PW G own nm cc nL ret d kc ks Q pc ls (.int y :: .int x :: rest) S I := by
  subst hp
  intro p e R s m args below meth c H locs cells slots arr hC
  exact lv_iadd hC.1 hC.2.1 hd (k p e R s m args below meth c H locs cells slots arr hC)
theorem P_isub {G : GX} {own nm : String} {cc : ByteArray} {nL : Nat} {ret : Option FieldType} {d kc ks : Nat} {Q : Option Value → Shp → Mem → Prop} {pc pc' : Nat} {ls : List (Option Value)} {rest : List Value} {S : Shp} {I : Mem} {x y : Int32} (hd : decode cc pc = .ok (.isub, 1)) (hp : pc + 1 = pc')  (k : PW G own nm cc nL ret d kc ks Q pc' ls (.int (x - y) :: rest) S I) : PW G own nm cc nL ret d kc ks Q pc ls (.int y :: .int x :: rest) S I := by
  subst hp
  intro p e R s m args below meth c H locs cells slots arr hC
  exact lv_isub hC.1 hC.2.1 hd (k p e R s m args below meth c H locs cells slots arr hC)
theorem P_imul {G : GX} {own nm : String} {cc : ByteArray} {nL : Nat} {ret : Option FieldType} {d kc ks : Nat} {Q : Option Value → Shp → Mem → Prop} {pc pc' : Nat} {ls : List (Option Value)} {rest : List Value} {S : Shp} {I : Mem} {x y : Int32} (hd : decode cc pc = .ok (.imul, 1)) (hp : pc + 1 = pc')  (k : PW G own nm cc nL ret d kc ks Q pc' ls (.int (x * y) :: rest) S I) : PW G own nm cc nL ret d kc ks Q pc ls (.int y :: .int x :: rest) S I := by
  subst hp
  intro p e R s m args below meth c H locs cells slots arr hC
  exact lv_imul hC.1 hC.2.1 hd (k p e R s m args below meth c H locs cells slots arr hC)
theorem P_iand {G : GX} {own nm : String} {cc : ByteArray} {nL : Nat} {ret : Option FieldType} {d kc ks : Nat} {Q : Option Value → Shp → Mem → Prop} {pc pc' : Nat} {ls : List (Option Value)} {rest : List Value} {S : Shp} {I : Mem} {x y : Int32} (hd : decode cc pc = .ok (.iand, 1)) (hp : pc + 1 = pc')  (k : PW G own nm cc nL ret d kc ks Q pc' ls (.int (x &&& y) :: rest) S I) : PW G own nm cc nL ret d kc ks Q pc ls (.int y :: .int x :: rest) S I := by
  subst hp
  intro p e R s m args below meth c H locs cells slots arr hC
  exact lv_iand hC.1 hC.2.1 hd (k p e R s m args below meth c H locs cells slots arr hC)
theorem P_ior {G : GX} {own nm : String} {cc : ByteArray} {nL : Nat} {ret : Option FieldType} {d kc ks : Nat} {Q : Option Value → Shp → Mem → Prop} {pc pc' : Nat} {ls : List (Option Value)} {rest : List Value} {S : Shp} {I : Mem} {x y : Int32} (hd : decode cc pc = .ok (.ior, 1)) (hp : pc + 1 = pc')  (k : PW G own nm cc nL ret d kc ks Q pc' ls (.int (x ||| y) :: rest) S I) : PW G own nm cc nL ret d kc ks Q pc ls (.int y :: .int x :: rest) S I := by
  subst hp
  intro p e R s m args below meth c H locs cells slots arr hC
  exact lv_ior hC.1 hC.2.1 hd (k p e R s m args below meth c H locs cells slots arr hC)
theorem P_ishl {G : GX} {own nm : String} {cc : ByteArray} {nL : Nat} {ret : Option FieldType} {d kc ks : Nat} {Q : Option Value → Shp → Mem → Prop} {pc pc' : Nat} {ls : List (Option Value)} {rest : List Value} {S : Shp} {I : Mem} {x y : Int32} (hd : decode cc pc = .ok (.ishl, 1)) (hp : pc + 1 = pc')  (k : PW G own nm cc nL ret d kc ks Q pc' ls (.int (x <<< (y &&& 31)) :: rest) S I) : PW G own nm cc nL ret d kc ks Q pc ls (.int y :: .int x :: rest) S I := by
  subst hp
  intro p e R s m args below meth c H locs cells slots arr hC
  exact lv_ishl hC.1 hC.2.1 hd (k p e R s m args below meth c H locs cells slots arr hC)
theorem P_ishr {G : GX} {own nm : String} {cc : ByteArray} {nL : Nat} {ret : Option FieldType} {d kc ks : Nat} {Q : Option Value → Shp → Mem → Prop} {pc pc' : Nat} {ls : List (Option Value)} {rest : List Value} {S : Shp} {I : Mem} {x y : Int32} (hd : decode cc pc = .ok (.ishr, 1)) (hp : pc + 1 = pc')  (k : PW G own nm cc nL ret d kc ks Q pc' ls (.int (x >>> (y &&& 31)) :: rest) S I) : PW G own nm cc nL ret d kc ks Q pc ls (.int y :: .int x :: rest) S I := by
  subst hp
  intro p e R s m args below meth c H locs cells slots arr hC
  exact lv_ishr hC.1 hC.2.1 hd (k p e R s m args below meth c H locs cells slots arr hC)
theorem P_idiv {G : GX} {own nm : String} {cc : ByteArray} {nL : Nat} {ret : Option FieldType} {d kc ks : Nat} {Q : Option Value → Shp → Mem → Prop} {pc pc' : Nat} {ls : List (Option Value)} {rest : List Value} {S : Shp} {I : Mem} {x y : Int32} (hd : decode cc pc = .ok (.idiv, 1)) (hp : pc + 1 = pc') (hne : ¬ y = 0) (k : PW G own nm cc nL ret d kc ks Q pc' ls (.int (x / y) :: rest) S I) : PW G own nm cc nL ret d kc ks Q pc ls (.int y :: .int x :: rest) S I := by
  subst hp
  intro p e R s m args below meth c H locs cells slots arr hC
  exact lv_idiv hC.1 hC.2.1 hd hne (k p e R s m args below meth c H locs cells slots arr hC)
theorem P_irem {G : GX} {own nm : String} {cc : ByteArray} {nL : Nat} {ret : Option FieldType} {d kc ks : Nat} {Q : Option Value → Shp → Mem → Prop} {pc pc' : Nat} {ls : List (Option Value)} {rest : List Value} {S : Shp} {I : Mem} {x y : Int32} (hd : decode cc pc = .ok (.irem, 1)) (hp : pc + 1 = pc') (hne : ¬ y = 0) (k : PW G own nm cc nL ret d kc ks Q pc' ls (.int (x - x / y * y) :: rest) S I) : PW G own nm cc nL ret d kc ks Q pc ls (.int y :: .int x :: rest) S I := by
  subst hp
  intro p e R s m args below meth c H locs cells slots arr hC
  exact lv_irem hC.1 hC.2.1 hd hne (k p e R s m args below meth c H locs cells slots arr hC)
theorem P_ineg {G : GX} {own nm : String} {cc : ByteArray} {nL : Nat} {ret : Option FieldType} {d kc ks : Nat} {Q : Option Value → Shp → Mem → Prop} {pc pc' : Nat} {ls : List (Option Value)} {rest : List Value} {S : Shp} {I : Mem} {x : Int32} (hd : decode cc pc = .ok (.ineg, 1)) (hp : pc + 1 = pc')  (k : PW G own nm cc nL ret d kc ks Q pc' ls (.int (-x) :: rest) S I) : PW G own nm cc nL ret d kc ks Q pc ls (.int x :: rest) S I := by
  subst hp
  intro p e R s m args below meth c H locs cells slots arr hC
  exact lv_ineg hC.1 hC.2.1 hd (k p e R s m args below meth c H locs cells slots arr hC)
theorem P_iushr {G : GX} {own nm : String} {cc : ByteArray} {nL : Nat} {ret : Option FieldType} {d kc ks : Nat} {Q : Option Value → Shp → Mem → Prop} {pc pc' : Nat} {ls : List (Option Value)} {rest : List Value} {S : Shp} {I : Mem} {x y : Int32} (hd : decode cc pc = .ok (.iushr, 1)) (hp : pc + 1 = pc')  (k : PW G own nm cc nL ret d kc ks Q pc' ls (.int (x.toUInt32 >>> (y.toUInt32 &&& Int32.toUInt32 31)).toInt32 :: rest) S I) : PW G own nm cc nL ret d kc ks Q pc ls (.int y :: .int x :: rest) S I := by
  subst hp
  intro p e R s m args below meth c H locs cells slots arr hC
  exact lv_iushr hC.1 hC.2.1 hd rfl (k p e R s m args below meth c H locs cells slots arr hC)
theorem P_i2b {G : GX} {own nm : String} {cc : ByteArray} {nL : Nat} {ret : Option FieldType} {d kc ks : Nat} {Q : Option Value → Shp → Mem → Prop} {pc pc' : Nat} {ls : List (Option Value)} {rest : List Value} {S : Shp} {I : Mem} {x : Int32} (hd : decode cc pc = .ok (.i2b, 1)) (hp : pc + 1 = pc')  (k : PW G own nm cc nL ret d kc ks Q pc' ls (.int x.toInt8.toInt32 :: rest) S I) : PW G own nm cc nL ret d kc ks Q pc ls (.int x :: rest) S I := by
  subst hp
  intro p e R s m args below meth c H locs cells slots arr hC
  exact lv_i2b hC.1 hC.2.1 hd rfl (k p e R s m args below meth c H locs cells slots arr hC)
theorem P_i2s {G : GX} {own nm : String} {cc : ByteArray} {nL : Nat} {ret : Option FieldType} {d kc ks : Nat} {Q : Option Value → Shp → Mem → Prop} {pc pc' : Nat} {ls : List (Option Value)} {rest : List Value} {S : Shp} {I : Mem} {x : Int32} (hd : decode cc pc = .ok (.i2s, 1)) (hp : pc + 1 = pc')  (k : PW G own nm cc nL ret d kc ks Q pc' ls (.int x.toInt16.toInt32 :: rest) S I) : PW G own nm cc nL ret d kc ks Q pc ls (.int x :: rest) S I := by
  subst hp
  intro p e R s m args below meth c H locs cells slots arr hC
  exact lv_i2s hC.1 hC.2.1 hd rfl (k p e R s m args below meth c H locs cells slots arr hC)
theorem P_i2c {G : GX} {own nm : String} {cc : ByteArray} {nL : Nat} {ret : Option FieldType} {d kc ks : Nat} {Q : Option Value → Shp → Mem → Prop} {pc pc' : Nat} {ls : List (Option Value)} {rest : List Value} {S : Shp} {I : Mem} {x : Int32} (hd : decode cc pc = .ok (.i2c, 1)) (hp : pc + 1 = pc')  (k : PW G own nm cc nL ret d kc ks Q pc' ls (.int (x.toUInt32 % 65536).toInt32 :: rest) S I) : PW G own nm cc nL ret d kc ks Q pc ls (.int x :: rest) S I := by
  subst hp
  intro p e R s m args below meth c H locs cells slots arr hC
  exact lv_i2c hC.1 hC.2.1 hd rfl (k p e R s m args below meth c H locs cells slots arr hC)
theorem P_i2l {G : GX} {own nm : String} {cc : ByteArray} {nL : Nat} {ret : Option FieldType} {d kc ks : Nat} {Q : Option Value → Shp → Mem → Prop} {pc pc' : Nat} {ls : List (Option Value)} {rest : List Value} {S : Shp} {I : Mem} {x : Int32} (hd : decode cc pc = .ok (.i2l, 1)) (hp : pc + 1 = pc')  (k : PW G own nm cc nL ret d kc ks Q pc' ls (.long x.toInt64 :: rest) S I) : PW G own nm cc nL ret d kc ks Q pc ls (.int x :: rest) S I := by
  subst hp
  intro p e R s m args below meth c H locs cells slots arr hC
  exact lv_i2l hC.1 hC.2.1 hd rfl (k p e R s m args below meth c H locs cells slots arr hC)
theorem P_l2i {G : GX} {own nm : String} {cc : ByteArray} {nL : Nat} {ret : Option FieldType} {d kc ks : Nat} {Q : Option Value → Shp → Mem → Prop} {pc pc' : Nat} {ls : List (Option Value)} {rest : List Value} {S : Shp} {I : Mem} {x : Int64} (hd : decode cc pc = .ok (.l2i, 1)) (hp : pc + 1 = pc')  (k : PW G own nm cc nL ret d kc ks Q pc' ls (.int x.toInt32 :: rest) S I) : PW G own nm cc nL ret d kc ks Q pc ls (.long x :: rest) S I := by
  subst hp
  intro p e R s m args below meth c H locs cells slots arr hC
  exact lv_l2i hC.1 hC.2.1 hd rfl (k p e R s m args below meth c H locs cells slots arr hC)
theorem P_ladd {G : GX} {own nm : String} {cc : ByteArray} {nL : Nat} {ret : Option FieldType} {d kc ks : Nat} {Q : Option Value → Shp → Mem → Prop} {pc pc' : Nat} {ls : List (Option Value)} {rest : List Value} {S : Shp} {I : Mem} {x y : Int64} (hd : decode cc pc = .ok (.ladd, 1)) (hp : pc + 1 = pc')  (k : PW G own nm cc nL ret d kc ks Q pc' ls (.long (x + y) :: rest) S I) : PW G own nm cc nL ret d kc ks Q pc ls (.long y :: .long x :: rest) S I := by
  subst hp
  intro p e R s m args below meth c H locs cells slots arr hC
  exact lv_ladd hC.1 hC.2.1 hd (k p e R s m args below meth c H locs cells slots arr hC)
theorem P_lsub {G : GX} {own nm : String} {cc : ByteArray} {nL : Nat} {ret : Option FieldType} {d kc ks : Nat} {Q : Option Value → Shp → Mem → Prop} {pc pc' : Nat} {ls : List (Option Value)} {rest : List Value} {S : Shp} {I : Mem} {x y : Int64} (hd : decode cc pc = .ok (.lsub, 1)) (hp : pc + 1 = pc')  (k : PW G own nm cc nL ret d kc ks Q pc' ls (.long (x - y) :: rest) S I) : PW G own nm cc nL ret d kc ks Q pc ls (.long y :: .long x :: rest) S I := by
  subst hp
  intro p e R s m args below meth c H locs cells slots arr hC
  exact lv_lsub hC.1 hC.2.1 hd (k p e R s m args below meth c H locs cells slots arr hC)
theorem P_lneg {G : GX} {own nm : String} {cc : ByteArray} {nL : Nat} {ret : Option FieldType} {d kc ks : Nat} {Q : Option Value → Shp → Mem → Prop} {pc pc' : Nat} {ls : List (Option Value)} {rest : List Value} {S : Shp} {I : Mem} {x : Int64} (hd : decode cc pc = .ok (.lneg, 1)) (hp : pc + 1 = pc')  (k : PW G own nm cc nL ret d kc ks Q pc' ls (.long (-x) :: rest) S I) : PW G own nm cc nL ret d kc ks Q pc ls (.long x :: rest) S I := by
  subst hp
  intro p e R s m args below meth c H locs cells slots arr hC
  exact lv_lneg hC.1 hC.2.1 hd (k p e R s m args below meth c H locs cells slots arr hC)
theorem P_lcmp {G : GX} {own nm : String} {cc : ByteArray} {nL : Nat} {ret : Option FieldType} {d kc ks : Nat} {Q : Option Value → Shp → Mem → Prop} {pc pc' : Nat} {ls : List (Option Value)} {rest : List Value} {S : Shp} {I : Mem} {x y : Int64} (hd : decode cc pc = .ok (.lcmp, 1)) (hp : pc + 1 = pc')  (k : PW G own nm cc nL ret d kc ks Q pc' ls (.int (lg_cmp x y) :: rest) S I) : PW G own nm cc nL ret d kc ks Q pc ls (.long y :: .long x :: rest) S I := by
  subst hp
  intro p e R s m args below meth c H locs cells slots arr hC
  exact W.lcmp hC.1 hC.2.1 hd (k p e R s m args below meth c H locs cells slots arr hC)
theorem P_dup {G : GX} {own nm : String} {cc : ByteArray} {nL : Nat} {ret : Option FieldType} {d kc ks : Nat} {Q : Option Value → Shp → Mem → Prop} {pc pc' : Nat} {ls : List (Option Value)} {rest : List Value} {S : Shp} {I : Mem} {v : Value} (hd : decode cc pc = .ok (.dup, 1)) (hp : pc + 1 = pc') (h1 : v.category = 1) (k : PW G own nm cc nL ret d kc ks Q pc' ls (v :: v :: rest) S I) : PW G own nm cc nL ret d kc ks Q pc ls (v :: rest) S I := by
  subst hp
  intro p e R s m args below meth c H locs cells slots arr hC
  exact lv_dup hC.1 hC.2.1 hd (by rw [em_cat]; exact h1) (k p e R s m args below meth c H locs cells slots arr hC)
theorem P_pop {G : GX} {own nm : String} {cc : ByteArray} {nL : Nat} {ret : Option FieldType} {d kc ks : Nat} {Q : Option Value → Shp → Mem → Prop} {pc pc' : Nat} {ls : List (Option Value)} {rest : List Value} {S : Shp} {I : Mem} {v : Value} (hd : decode cc pc = .ok (.pop, 1)) (hp : pc + 1 = pc') (h1 : v.category = 1) (k : PW G own nm cc nL ret d kc ks Q pc' ls rest S I) : PW G own nm cc nL ret d kc ks Q pc ls (v :: rest) S I := by
  subst hp
  intro p e R s m args below meth c H locs cells slots arr hC
  exact lv_pop hC.1 hC.2.1 hd (by rw [em_cat]; exact h1) (k p e R s m args below meth c H locs cells slots arr hC)
theorem P_dup2 {G : GX} {own nm : String} {cc : ByteArray} {nL : Nat} {ret : Option FieldType} {d kc ks : Nat} {Q : Option Value → Shp → Mem → Prop} {pc pc' : Nat} {ls : List (Option Value)} {rest : List Value} {S : Shp} {I : Mem} {v w : Value} (hd : decode cc pc = .ok (.dup2, 1)) (hp : pc + 1 = pc') (h1 : v.category = 1) (h2 : w.category = 1) (k : PW G own nm cc nL ret d kc ks Q pc' ls (v :: w :: v :: w :: rest) S I) : PW G own nm cc nL ret d kc ks Q pc ls (v :: w :: rest) S I := by
  subst hp
  intro p e R s m args below meth c H locs cells slots arr hC
  exact lv_dup2_11 hC.1 hC.2.1 hd (by rw [em_cat]; exact h1) (by rw [em_cat]; exact h2) (k p e R s m args below meth c H locs cells slots arr hC)
theorem P_if_eq {G : GX} {own nm : String} {cc : ByteArray} {nL : Nat} {ret : Option FieldType} {d kc ks : Nat} {Q : Option Value → Shp → Mem → Prop} {pc pc' : Nat} {ls : List (Option Value)} {rest : List Value} {S : Shp} {I : Mem} {x : Int32} {off : Int} {tgt : Nat} (hd : decode cc pc = .ok (.ifCond .eq off, 3)) (ht : (pc : Int) + off = (tgt : Int)) (hp : pc + 3 = pc') (k1 : x = 0 → PW G own nm cc nL ret d kc ks Q tgt ls rest S I) (k2 : ¬ x = 0 → PW G own nm cc nL ret d kc ks Q pc' ls rest S I) : PW G own nm cc nL ret d kc ks Q pc ls (.int x :: rest) S I := by
  subst hp
  intro p e R s m args below meth c H locs cells slots arr hC
  exact lv_if_eq hC.1 hC.2.1 hd ht (fun h => k1 h p e R s m args below meth c H locs cells slots arr hC) (fun h => k2 h p e R s m args below meth c H locs cells slots arr hC)
theorem P_icmp_eq {G : GX} {own nm : String} {cc : ByteArray} {nL : Nat} {ret : Option FieldType} {d kc ks : Nat} {Q : Option Value → Shp → Mem → Prop} {pc pc' : Nat} {ls : List (Option Value)} {rest : List Value} {S : Shp} {I : Mem} {x y : Int32} {off : Int} {tgt : Nat} (hd : decode cc pc = .ok (.if_icmp .eq off, 3)) (ht : (pc : Int) + off = (tgt : Int)) (hp : pc + 3 = pc') (k1 : x = y → PW G own nm cc nL ret d kc ks Q tgt ls rest S I) (k2 : ¬ x = y → PW G own nm cc nL ret d kc ks Q pc' ls rest S I) : PW G own nm cc nL ret d kc ks Q pc ls (.int y :: .int x :: rest) S I := by
  subst hp
  intro p e R s m args below meth c H locs cells slots arr hC
  exact lv_icmp_eq hC.1 hC.2.1 hd ht (fun h => k1 h p e R s m args below meth c H locs cells slots arr hC) (fun h => k2 h p e R s m args below meth c H locs cells slots arr hC)
theorem P_if_ne {G : GX} {own nm : String} {cc : ByteArray} {nL : Nat} {ret : Option FieldType} {d kc ks : Nat} {Q : Option Value → Shp → Mem → Prop} {pc pc' : Nat} {ls : List (Option Value)} {rest : List Value} {S : Shp} {I : Mem} {x : Int32} {off : Int} {tgt : Nat} (hd : decode cc pc = .ok (.ifCond .ne off, 3)) (ht : (pc : Int) + off = (tgt : Int)) (hp : pc + 3 = pc') (k1 : ¬ x = 0 → PW G own nm cc nL ret d kc ks Q tgt ls rest S I) (k2 : x = 0 → PW G own nm cc nL ret d kc ks Q pc' ls rest S I) : PW G own nm cc nL ret d kc ks Q pc ls (.int x :: rest) S I := by
  subst hp
  intro p e R s m args below meth c H locs cells slots arr hC
  exact lv_if_ne hC.1 hC.2.1 hd ht (fun h => k1 h p e R s m args below meth c H locs cells slots arr hC) (fun h => k2 h p e R s m args below meth c H locs cells slots arr hC)
theorem P_icmp_ne {G : GX} {own nm : String} {cc : ByteArray} {nL : Nat} {ret : Option FieldType} {d kc ks : Nat} {Q : Option Value → Shp → Mem → Prop} {pc pc' : Nat} {ls : List (Option Value)} {rest : List Value} {S : Shp} {I : Mem} {x y : Int32} {off : Int} {tgt : Nat} (hd : decode cc pc = .ok (.if_icmp .ne off, 3)) (ht : (pc : Int) + off = (tgt : Int)) (hp : pc + 3 = pc') (k1 : ¬ x = y → PW G own nm cc nL ret d kc ks Q tgt ls rest S I) (k2 : x = y → PW G own nm cc nL ret d kc ks Q pc' ls rest S I) : PW G own nm cc nL ret d kc ks Q pc ls (.int y :: .int x :: rest) S I := by
  subst hp
  intro p e R s m args below meth c H locs cells slots arr hC
  exact lv_icmp_ne hC.1 hC.2.1 hd ht (fun h => k1 h p e R s m args below meth c H locs cells slots arr hC) (fun h => k2 h p e R s m args below meth c H locs cells slots arr hC)
theorem P_if_lt {G : GX} {own nm : String} {cc : ByteArray} {nL : Nat} {ret : Option FieldType} {d kc ks : Nat} {Q : Option Value → Shp → Mem → Prop} {pc pc' : Nat} {ls : List (Option Value)} {rest : List Value} {S : Shp} {I : Mem} {x : Int32} {off : Int} {tgt : Nat} (hd : decode cc pc = .ok (.ifCond .lt off, 3)) (ht : (pc : Int) + off = (tgt : Int)) (hp : pc + 3 = pc') (k1 : x < 0 → PW G own nm cc nL ret d kc ks Q tgt ls rest S I) (k2 : ¬ x < 0 → PW G own nm cc nL ret d kc ks Q pc' ls rest S I) : PW G own nm cc nL ret d kc ks Q pc ls (.int x :: rest) S I := by
  subst hp
  intro p e R s m args below meth c H locs cells slots arr hC
  exact lv_if_lt hC.1 hC.2.1 hd ht (fun h => k1 h p e R s m args below meth c H locs cells slots arr hC) (fun h => k2 h p e R s m args below meth c H locs cells slots arr hC)
theorem P_icmp_lt {G : GX} {own nm : String} {cc : ByteArray} {nL : Nat} {ret : Option FieldType} {d kc ks : Nat} {Q : Option Value → Shp → Mem → Prop} {pc pc' : Nat} {ls : List (Option Value)} {rest : List Value} {S : Shp} {I : Mem} {x y : Int32} {off : Int} {tgt : Nat} (hd : decode cc pc = .ok (.if_icmp .lt off, 3)) (ht : (pc : Int) + off = (tgt : Int)) (hp : pc + 3 = pc') (k1 : x < y → PW G own nm cc nL ret d kc ks Q tgt ls rest S I) (k2 : ¬ x < y → PW G own nm cc nL ret d kc ks Q pc' ls rest S I) : PW G own nm cc nL ret d kc ks Q pc ls (.int y :: .int x :: rest) S I := by
  subst hp
  intro p e R s m args below meth c H locs cells slots arr hC
  exact lv_icmp_lt hC.1 hC.2.1 hd ht (fun h => k1 h p e R s m args below meth c H locs cells slots arr hC) (fun h => k2 h p e R s m args below meth c H locs cells slots arr hC)
theorem P_if_ge {G : GX} {own nm : String} {cc : ByteArray} {nL : Nat} {ret : Option FieldType} {d kc ks : Nat} {Q : Option Value → Shp → Mem → Prop} {pc pc' : Nat} {ls : List (Option Value)} {rest : List Value} {S : Shp} {I : Mem} {x : Int32} {off : Int} {tgt : Nat} (hd : decode cc pc = .ok (.ifCond .ge off, 3)) (ht : (pc : Int) + off = (tgt : Int)) (hp : pc + 3 = pc') (k1 : 0 ≤ x → PW G own nm cc nL ret d kc ks Q tgt ls rest S I) (k2 : ¬ 0 ≤ x → PW G own nm cc nL ret d kc ks Q pc' ls rest S I) : PW G own nm cc nL ret d kc ks Q pc ls (.int x :: rest) S I := by
  subst hp
  intro p e R s m args below meth c H locs cells slots arr hC
  exact lv_if_ge hC.1 hC.2.1 hd ht (fun h => k1 h p e R s m args below meth c H locs cells slots arr hC) (fun h => k2 h p e R s m args below meth c H locs cells slots arr hC)
theorem P_icmp_ge {G : GX} {own nm : String} {cc : ByteArray} {nL : Nat} {ret : Option FieldType} {d kc ks : Nat} {Q : Option Value → Shp → Mem → Prop} {pc pc' : Nat} {ls : List (Option Value)} {rest : List Value} {S : Shp} {I : Mem} {x y : Int32} {off : Int} {tgt : Nat} (hd : decode cc pc = .ok (.if_icmp .ge off, 3)) (ht : (pc : Int) + off = (tgt : Int)) (hp : pc + 3 = pc') (k1 : y ≤ x → PW G own nm cc nL ret d kc ks Q tgt ls rest S I) (k2 : ¬ y ≤ x → PW G own nm cc nL ret d kc ks Q pc' ls rest S I) : PW G own nm cc nL ret d kc ks Q pc ls (.int y :: .int x :: rest) S I := by
  subst hp
  intro p e R s m args below meth c H locs cells slots arr hC
  exact lv_icmp_ge hC.1 hC.2.1 hd ht (fun h => k1 h p e R s m args below meth c H locs cells slots arr hC) (fun h => k2 h p e R s m args below meth c H locs cells slots arr hC)
theorem P_if_gt {G : GX} {own nm : String} {cc : ByteArray} {nL : Nat} {ret : Option FieldType} {d kc ks : Nat} {Q : Option Value → Shp → Mem → Prop} {pc pc' : Nat} {ls : List (Option Value)} {rest : List Value} {S : Shp} {I : Mem} {x : Int32} {off : Int} {tgt : Nat} (hd : decode cc pc = .ok (.ifCond .gt off, 3)) (ht : (pc : Int) + off = (tgt : Int)) (hp : pc + 3 = pc') (k1 : 0 < x → PW G own nm cc nL ret d kc ks Q tgt ls rest S I) (k2 : ¬ 0 < x → PW G own nm cc nL ret d kc ks Q pc' ls rest S I) : PW G own nm cc nL ret d kc ks Q pc ls (.int x :: rest) S I := by
  subst hp
  intro p e R s m args below meth c H locs cells slots arr hC
  exact lv_if_gt hC.1 hC.2.1 hd ht (fun h => k1 h p e R s m args below meth c H locs cells slots arr hC) (fun h => k2 h p e R s m args below meth c H locs cells slots arr hC)
theorem P_icmp_gt {G : GX} {own nm : String} {cc : ByteArray} {nL : Nat} {ret : Option FieldType} {d kc ks : Nat} {Q : Option Value → Shp → Mem → Prop} {pc pc' : Nat} {ls : List (Option Value)} {rest : List Value} {S : Shp} {I : Mem} {x y : Int32} {off : Int} {tgt : Nat} (hd : decode cc pc = .ok (.if_icmp .gt off, 3)) (ht : (pc : Int) + off = (tgt : Int)) (hp : pc + 3 = pc') (k1 : y < x → PW G own nm cc nL ret d kc ks Q tgt ls rest S I) (k2 : ¬ y < x → PW G own nm cc nL ret d kc ks Q pc' ls rest S I) : PW G own nm cc nL ret d kc ks Q pc ls (.int y :: .int x :: rest) S I := by
  subst hp
  intro p e R s m args below meth c H locs cells slots arr hC
  exact lv_icmp_gt hC.1 hC.2.1 hd ht (fun h => k1 h p e R s m args below meth c H locs cells slots arr hC) (fun h => k2 h p e R s m args below meth c H locs cells slots arr hC)
theorem P_if_le {G : GX} {own nm : String} {cc : ByteArray} {nL : Nat} {ret : Option FieldType} {d kc ks : Nat} {Q : Option Value → Shp → Mem → Prop} {pc pc' : Nat} {ls : List (Option Value)} {rest : List Value} {S : Shp} {I : Mem} {x : Int32} {off : Int} {tgt : Nat} (hd : decode cc pc = .ok (.ifCond .le off, 3)) (ht : (pc : Int) + off = (tgt : Int)) (hp : pc + 3 = pc') (k1 : x ≤ 0 → PW G own nm cc nL ret d kc ks Q tgt ls rest S I) (k2 : ¬ x ≤ 0 → PW G own nm cc nL ret d kc ks Q pc' ls rest S I) : PW G own nm cc nL ret d kc ks Q pc ls (.int x :: rest) S I := by
  subst hp
  intro p e R s m args below meth c H locs cells slots arr hC
  exact lv_if_le hC.1 hC.2.1 hd ht (fun h => k1 h p e R s m args below meth c H locs cells slots arr hC) (fun h => k2 h p e R s m args below meth c H locs cells slots arr hC)
theorem P_icmp_le {G : GX} {own nm : String} {cc : ByteArray} {nL : Nat} {ret : Option FieldType} {d kc ks : Nat} {Q : Option Value → Shp → Mem → Prop} {pc pc' : Nat} {ls : List (Option Value)} {rest : List Value} {S : Shp} {I : Mem} {x y : Int32} {off : Int} {tgt : Nat} (hd : decode cc pc = .ok (.if_icmp .le off, 3)) (ht : (pc : Int) + off = (tgt : Int)) (hp : pc + 3 = pc') (k1 : x ≤ y → PW G own nm cc nL ret d kc ks Q tgt ls rest S I) (k2 : ¬ x ≤ y → PW G own nm cc nL ret d kc ks Q pc' ls rest S I) : PW G own nm cc nL ret d kc ks Q pc ls (.int y :: .int x :: rest) S I := by
  subst hp
  intro p e R s m args below meth c H locs cells slots arr hC
  exact lv_icmp_le hC.1 hC.2.1 hd ht (fun h => k1 h p e R s m args below meth c H locs cells slots arr hC) (fun h => k2 h p e R s m args below meth c H locs cells slots arr hC)
theorem P_goto {G : GX} {own nm : String} {cc : ByteArray} {nL : Nat} {ret : Option FieldType} {d kc ks : Nat} {Q : Option Value → Shp → Mem → Prop} {pc : Nat} {ls : List (Option Value)} {rest : List Value} {S : Shp} {I : Mem} {off : Int} {tgt : Nat} (hd : decode cc pc = .ok (.goto off, 3)) (ht : (pc : Int) + off = (tgt : Int)) (k : PW G own nm cc nL ret d kc ks Q tgt ls rest S I) : PW G own nm cc nL ret d kc ks Q pc ls rest S I := by
  intro p e R s m args below meth c H locs cells slots arr hC
  exact lv_goto hC.1 hC.2.1 hd ht (k p e R s m args below meth c H locs cells slots arr hC)
theorem P_nonnull {G : GX} {own nm : String} {cc : ByteArray} {nL : Nat} {ret : Option FieldType} {d kc ks : Nat} {Q : Option Value → Shp → Mem → Prop} {pc : Nat} {ls : List (Option Value)} {rest : List Value} {S : Shp} {I : Mem} {a : Nat} {off : Int} {tgt : Nat} (hd : decode cc pc = .ok (.ifnonnull off, 3)) (ht : (pc : Int) + off = (tgt : Int)) (k : PW G own nm cc nL ret d kc ks Q tgt ls rest S I) : PW G own nm cc nL ret d kc ks Q pc ls (.ref a :: rest) S I := by
  intro p e R s m args below meth c H locs cells slots arr hC
  exact lv_ifnonnull hC.1 hC.2.1 hd ht (k p e R s m args below meth c H locs cells slots arr hC)
theorem P_nonnullN {G : GX} {own nm : String} {cc : ByteArray} {nL : Nat} {ret : Option FieldType} {d kc ks : Nat} {Q : Option Value → Shp → Mem → Prop} {pc pc' : Nat} {ls : List (Option Value)} {rest : List Value} {S : Shp} {I : Mem} {off : Int} (hd : decode cc pc = .ok (.ifnonnull off, 3)) (hp : pc + 3 = pc') (k : PW G own nm cc nL ret d kc ks Q pc' ls rest S I) : PW G own nm cc nL ret d kc ks Q pc ls (.null :: rest) S I := by
  subst hp
  intro p e R s m args below meth c H locs cells slots arr hC
  exact lv_ifnonnullN hC.1 hC.2.1 hd (k p e R s m args below meth c H locs cells slots arr hC)
theorem P_isnull {G : GX} {own nm : String} {cc : ByteArray} {nL : Nat} {ret : Option FieldType} {d kc ks : Nat} {Q : Option Value → Shp → Mem → Prop} {pc pc' : Nat} {ls : List (Option Value)} {rest : List Value} {S : Shp} {I : Mem} {a : Nat} {off : Int} (hd : decode cc pc = .ok (.ifnull off, 3)) (hp : pc + 3 = pc') (k : PW G own nm cc nL ret d kc ks Q pc' ls rest S I) : PW G own nm cc nL ret d kc ks Q pc ls (.ref a :: rest) S I := by
  subst hp
  intro p e R s m args below meth c H locs cells slots arr hC
  exact lv_ifnull hC.1 hC.2.1 hd (k p e R s m args below meth c H locs cells slots arr hC)
theorem P_isnullN {G : GX} {own nm : String} {cc : ByteArray} {nL : Nat} {ret : Option FieldType} {d kc ks : Nat} {Q : Option Value → Shp → Mem → Prop} {pc : Nat} {ls : List (Option Value)} {rest : List Value} {S : Shp} {I : Mem} {off : Int} {tgt : Nat} (hd : decode cc pc = .ok (.ifnull off, 3)) (ht : (pc : Int) + off = (tgt : Int)) (k : PW G own nm cc nL ret d kc ks Q tgt ls rest S I) : PW G own nm cc nL ret d kc ks Q pc ls (.null :: rest) S I := by
  intro p e R s m args below meth c H locs cells slots arr hC
  exact lv_ifnullN hC.1 hC.2.1 hd ht (k p e R s m args below meth c H locs cells slots arr hC)
theorem P_tabOut {G : GX} {own nm : String} {cc : ByteArray} {nL : Nat} {ret : Option FieldType} {d kc ks : Nat} {Q : Option Value → Shp → Mem → Prop} {pc : Nat} {ls : List (Option Value)} {rest : List Value} {S : Shp} {I : Mem} {dflt lo hi : Int} {offs : Array Int} {len : Nat} {x : Int32} {tgt : Nat} (hd : decode cc pc = .ok (.tableswitch dflt lo hi offs, len)) (h : x.toInt < lo ∨ hi < x.toInt) (ht : (pc : Int) + dflt = (tgt : Int)) (k : PW G own nm cc nL ret d kc ks Q tgt ls rest S I) : PW G own nm cc nL ret d kc ks Q pc ls (.int x :: rest) S I := by
  intro p e R s m args below meth c H locs cells slots arr hC
  exact lv_tableOut hC.1 hC.2.1 hd h ht (k p e R s m args below meth c H locs cells slots arr hC)
theorem P_tabIn {G : GX} {own nm : String} {cc : ByteArray} {nL : Nat} {ret : Option FieldType} {d kc ks : Nat} {Q : Option Value → Shp → Mem → Prop} {pc : Nat} {ls : List (Option Value)} {rest : List Value} {S : Shp} {I : Mem} {dflt lo hi : Int} {offs : Array Int} {len : Nat} {x : Int32} {off : Int} {tgt : Nat} (hd : decode cc pc = .ok (.tableswitch dflt lo hi offs, len)) (h1 : ¬ x.toInt < lo) (h2 : ¬ hi < x.toInt) (ho : offs[(x.toInt - lo).toNat]? = some off) (ht : (pc : Int) + off = (tgt : Int)) (k : PW G own nm cc nL ret d kc ks Q tgt ls rest S I) : PW G own nm cc nL ret d kc ks Q pc ls (.int x :: rest) S I := by
  intro p e R s m args below meth c H locs cells slots arr hC
  exact lv_tableIn hC.1 hC.2.1 hd h1 h2 ho ht (k p e R s m args below meth c H locs cells slots arr hC)
theorem P_look {G : GX} {own nm : String} {cc : ByteArray} {nL : Nat} {ret : Option FieldType} {d kc ks : Nat} {Q : Option Value → Shp → Mem → Prop} {pc : Nat} {ls : List (Option Value)} {rest : List Value} {S : Shp} {I : Mem} {dflt : Int} {ps : Array (Int × Int)} {len : Nat} {x : Int32} {off : Int} {tgt : Nat} (hd : decode cc pc = .ok (.lookupswitch dflt ps, len)) (hq : (ps.toList.zip (ps.toList.drop 1)).all (fun (a, next) => a.1 < next.1) = true) (ho : Op.lookupswitch.offset ps.toList dflt x.toInt = off) (ht : (pc : Int) + off = (tgt : Int)) (k : PW G own nm cc nL ret d kc ks Q tgt ls rest S I) : PW G own nm cc nL ret d kc ks Q pc ls (.int x :: rest) S I := by
  intro p e R s m args below meth c H locs cells slots arr hC
  exact lv_lookup hC.1 hC.2.1 hd hq ho ht (k p e R s m args below meth c H locs cells slots arr hC)
theorem P_top {G : GX} {own nm : String} {cc : ByteArray} {nL : Nat} {ret : Option FieldType} {d kc ks : Nat} {Q : Option Value → Shp → Mem → Prop} {pc : Nat} {ls : List (Option Value)} {rest : List Value} {S : Shp} {I : Mem} {x : Int32} (k : ∀ y : Int32, y = x → PW G own nm cc nL ret d kc ks Q pc ls (.int y :: rest) S I) : PW G own nm cc nL ret d kc ks Q pc ls (.int x :: rest) S I := k x rfl
theorem P_as {G : GX} {own nm : String} {cc : ByteArray} {nL : Nat} {ret : Option FieldType} {d kc ks : Nat} {Q : Option Value → Shp → Mem → Prop} {pc : Nat} {ls : List (Option Value)} {rest : List Value} {S : Shp} {I : Mem} {x y : Int32} (h : x = y) (k : PW G own nm cc nL ret d kc ks Q pc ls (.int y :: rest) S I) : PW G own nm cc nL ret d kc ks Q pc ls (.int x :: rest) S I := h ▸ k
theorem P_asM {G : GX} {own nm : String} {cc : ByteArray} {nL : Nat} {ret : Option FieldType} {d kc ks : Nat} {Q : Option Value → Shp → Mem → Prop} {pc : Nat} {ls : List (Option Value)} {rest : List Value} {S : Shp} {I : Mem} {I' : Mem} (h : I = I') (k : PW G own nm cc nL ret d kc ks Q pc ls rest S I') : PW G own nm cc nL ret d kc ks Q pc ls rest S I := h ▸ k
theorem lh_store {G : GX} {arr : Array Slot} {nL i : Nat} {ls : List (Option Value)} {v : Value} (h : lh G arr nL ls) (hi : i < nL) (hil : i < ls.length) (hv : v.category = 1) (hq : ∀ (j : Nat) (w : Value), j + 1 = i → ls[j]? = some (some w) → w.category = 1) : ∃ arr', storeLocals arr i (em G v) = some arr' ∧ lh G arr' nL (ls.set i (some v)) := by
  have h0 : lv_has arr nL ((List.range ls.length).filterMap (fun j => (ls[j]?).join.map (fun w => (j, em G w)))) := by
    refine ⟨h.1, h.2.1, fun q hq => ?_⟩
    obtain ⟨j, -, hj⟩ := List.mem_filterMap.mp hq
    cases hx : ls[j]? with
    | none => rw [hx] at hj; cases hj
    | some o =>
      cases o with
      | none => rw [hx] at hj; cases hj
      | some w =>
        rw [hx] at hj
        cases Option.some.inj hj
        exact h.2.2 j w hx
  obtain ⟨arr', e1, e2⟩ := lv_store1 (v := em G v) h0 hi (by rw [em_cat]; exact hv)
  refine ⟨arr', e1, e2.1, e2.2.1, fun j w hj => ?_⟩
  by_cases hji : j = i
  · subst hji
    rw [List.getElem?_set_self hil] at hj
    have e3 : v = w := Option.some.inj (Option.some.inj hj)
    rw [← e3]
    exact e2.2.2 (j, em G v) List.mem_cons_self
  · rw [List.getElem?_set_ne (Ne.symm hji)] at hj
    refine e2.2.2 (j, em G w) (List.mem_cons_of_mem _ (List.mem_filter.mpr ⟨List.mem_filterMap.mpr ⟨j, List.mem_range.mpr ((List.getElem?_eq_some_iff.mp hj).1), by rw [hj]; rfl⟩, ?_⟩))
    have hw : ∀ z : Nat, j + 1 = z → z = i → (em G w).category = 1 := fun z h1 h2 => by rw [em_cat]; exact hq j w (by omega) hj
    by_cases hz : j + 1 = i
    · have := hw _ rfl hz
      simp [hji, this]
    · simp [hji, hz]
theorem lh_storeL {G : GX} {arr : Array Slot} {nL i : Nat} {ls : List (Option Value)} {x : Int64} (h : lh G arr nL ls) (hi : i + 1 < nL) (hil : i + 1 < ls.length) (hq : ∀ (j : Nat) (w : Value), j + 1 = i → ls[j]? = some (some w) → w.category = 1) : ∃ arr', storeLocals arr i (.long x) = some arr' ∧ lh G arr' nL ((ls.set i (some (.long x))).set (i + 1) none) := by
  have h0 : lv_has arr nL ((List.range ls.length).filterMap (fun j => (ls[j]?).join.map (fun w => (j, em G w)))) := by
    refine ⟨h.1, h.2.1, fun q hq => ?_⟩
    obtain ⟨j, -, hj⟩ := List.mem_filterMap.mp hq
    cases hx : ls[j]? with
    | none => rw [hx] at hj; cases hj
    | some o =>
      cases o with
      | none => rw [hx] at hj; cases hj
      | some w =>
        rw [hx] at hj
        cases Option.some.inj hj
        exact h.2.2 j w hx
  obtain ⟨arr', e1, e2⟩ := lv_store2 (v := .long x) h0 hi rfl
  refine ⟨arr', e1, e2.1, e2.2.1, fun j w hj => ?_⟩
  by_cases hji1 : j = i + 1
  · subst hji1
    rw [List.getElem?_set_self (by simpa using hil)] at hj
    cases hj
  · rw [List.getElem?_set_ne (Ne.symm hji1)] at hj
    by_cases hji : j = i
    · subst hji
      rw [List.getElem?_set_self (by omega)] at hj
      cases hj
      exact e2.2.2 (j, .long x) List.mem_cons_self
    · rw [List.getElem?_set_ne (Ne.symm hji)] at hj
      refine e2.2.2 (j, em G w) (List.mem_cons_of_mem _ (List.mem_filter.mpr ⟨List.mem_filterMap.mpr ⟨j, List.mem_range.mpr ((List.getElem?_eq_some_iff.mp hj).1), by rw [hj]; rfl⟩, ?_⟩))
      by_cases hz : j + 1 = i
      · have : (em G w).category = 1 := by rw [em_cat]; exact hq j w hz hj
        simp [hji, hji1, this]
      · simp [hji, hji1, hz]
def lc1 (o : Option Value) : Bool := match o with
  | some v => v.category == 1
  | none => true
theorem P_iload0 {G : GX} {own nm : String} {cc : ByteArray} {nL : Nat} {ret : Option FieldType} {d kc ks : Nat} {Q : Option Value → Shp → Mem → Prop} {pc pc' : Nat} {rest : List Value} {S : Shp} {I : Mem} {r : List (Option Value)} {v : Int32} (hd : decode cc pc = .ok (.iload_n 0, 1)) (hp : pc + 1 = pc') (k : PW G own nm cc nL ret d kc ks Q pc' (some (.int v) :: r) (.int v :: rest) S I) : PW G own nm cc nL ret d kc ks Q pc (some (.int v) :: r) rest S I := by
  subst hp
  intro p e R s m args below meth c H locs cells slots arr hC
  exact lv_iload_n hC.1 hC.2.1 hd rfl (hC.2.2.2.2.2.2.2.2.2.2.2.1.2.2 0 (.int v) rfl) (k p e R s m args below meth c H locs cells slots arr hC)
theorem P_aload0 {G : GX} {own nm : String} {cc : ByteArray} {nL : Nat} {ret : Option FieldType} {d kc ks : Nat} {Q : Option Value → Shp → Mem → Prop} {pc pc' : Nat} {rest : List Value} {S : Shp} {I : Mem} {r : List (Option Value)} {v : Nat} (hd : decode cc pc = .ok (.aload_n 0, 1)) (hp : pc + 1 = pc') (k : PW G own nm cc nL ret d kc ks Q pc' (some (.ref v) :: r) (.ref v :: rest) S I) : PW G own nm cc nL ret d kc ks Q pc (some (.ref v) :: r) rest S I := by
  subst hp
  intro p e R s m args below meth c H locs cells slots arr hC
  exact lv_aload_n hC.1 hC.2.1 hd rfl (hC.2.2.2.2.2.2.2.2.2.2.2.1.2.2 0 (.ref v) rfl) (k p e R s m args below meth c H locs cells slots arr hC)
theorem P_istore0 {G : GX} {own nm : String} {cc : ByteArray} {nL : Nat} {ret : Option FieldType} {d kc ks : Nat} {Q : Option Value → Shp → Mem → Prop} {pc pc' : Nat} {rest : List Value} {S : Shp} {I : Mem} {r : List (Option Value)} {o : Option Value} {v : Int32} (hd : decode cc pc = .ok (.istore_n 0, 1)) (hp : pc + 1 = pc') (hn : 0 < nL)  (k : PW G own nm cc nL ret d kc ks Q pc' (some (.int v) :: r) rest S I) : PW G own nm cc nL ret d kc ks Q pc (o :: r) (.int v :: rest) S I := by
  subst hp
  intro p e R s m args below meth c H locs cells slots arr hC
  obtain ⟨hx, hb, c1, c2, c3, c4, c5, c6, c7, c8, c9, hl, c10⟩ := hC
  obtain ⟨arr', e1, e2⟩ := lh_store (i := 0) (v := .int v) hl hn (by simp) rfl (fun j w hj hw => by omega)
  have e2 : lh G arr' nL (some (.int v) :: r) := e2
  have kk := k p e R s m args below meth c H locs cells slots arr' ⟨hx, hb, c1, c2, c3, c4, c5, c6, c7, c8, c9, e2, c10⟩
  intro T hT X
  obtain ⟨t, a, b⟩ := kk T hT X
  refine ⟨t, ?_, b⟩
  have e1 : storeLocals arr 0 (em G (.int v)) = some arr' := e1
  jvm_step X.here [X.here.top, hx, hb, hd, em]
  first | exact a | exact ⟨arr', e1, a⟩ | exact ⟨rfl, arr', e1, a⟩
theorem P_astore0 {G : GX} {own nm : String} {cc : ByteArray} {nL : Nat} {ret : Option FieldType} {d kc ks : Nat} {Q : Option Value → Shp → Mem → Prop} {pc pc' : Nat} {rest : List Value} {S : Shp} {I : Mem} {r : List (Option Value)} {o : Option Value} {v : Nat} (hd : decode cc pc = .ok (.astore_n 0, 1)) (hp : pc + 1 = pc') (hn : 0 < nL)  (k : PW G own nm cc nL ret d kc ks Q pc' (some (.ref v) :: r) rest S I) : PW G own nm cc nL ret d kc ks Q pc (o :: r) (.ref v :: rest) S I := by
  subst hp
  intro p e R s m args below meth c H locs cells slots arr hC
  obtain ⟨hx, hb, c1, c2, c3, c4, c5, c6, c7, c8, c9, hl, c10⟩ := hC
  obtain ⟨arr', e1, e2⟩ := lh_store (i := 0) (v := .ref v) hl hn (by simp) rfl (fun j w hj hw => by omega)
  have e2 : lh G arr' nL (some (.ref v) :: r) := e2
  have kk := k p e R s m args below meth c H locs cells slots arr' ⟨hx, hb, c1, c2, c3, c4, c5, c6, c7, c8, c9, e2, c10⟩
  intro T hT X
  obtain ⟨t, a, b⟩ := kk T hT X
  refine ⟨t, ?_, b⟩
  have e1 : storeLocals arr 0 (em G (.ref v)) = some arr' := e1
  jvm_step X.here [X.here.top, hx, hb, hd, em]
  first | exact a | exact ⟨arr', e1, a⟩ | exact ⟨rfl, arr', e1, a⟩
theorem P_iinc0 {G : GX} {own nm : String} {cc : ByteArray} {nL : Nat} {ret : Option FieldType} {d kc ks : Nat} {Q : Option Value → Shp → Mem → Prop} {pc pc' : Nat} {rest : List Value} {S : Shp} {I : Mem} {r : List (Option Value)} {x v : Int32} {n : Int} (hd : decode cc pc = .ok (.iinc 0 n, 3)) (hp : pc + 3 = pc') (hv : x + Int32.ofInt n = v) (hn : 0 < nL)  (k : PW G own nm cc nL ret d kc ks Q pc' (some (.int v) :: r) rest S I) : PW G own nm cc nL ret d kc ks Q pc (some (.int x) :: r) rest S I := by
  subst hp
  intro p e R s m args below meth c H locs cells slots arr hC
  obtain ⟨hx, hb, c1, c2, c3, c4, c5, c6, c7, c8, c9, hl, c10⟩ := hC
  obtain ⟨arr', e1, e2⟩ := lh_store (i := 0) (v := .int v) hl hn (by simp) rfl (fun j w hj hw => by omega)
  have e2 : lh G arr' nL (some (.int v) :: r) := e2
  have hi : arr[0]? = some (.val (.int x)) := hl.2.2 0 (.int x) rfl
  have kk := k p e R s m args below meth c H locs cells slots arr' ⟨hx, hb, c1, c2, c3, c4, c5, c6, c7, c8, c9, e2, c10⟩
  intro T hT X
  obtain ⟨t, a, b⟩ := kk T hT X
  refine ⟨t, ?_, b⟩
  have e1 : storeLocals arr 0 (.int v) = some arr' := e1
  rw [← hv] at e1
  jvm_step X.here [X.here.top, hx, hb, hd, hi, e1]
  exact a
theorem P_iload1 {G : GX} {own nm : String} {cc : ByteArray} {nL : Nat} {ret : Option FieldType} {d kc ks : Nat} {Q : Option Value → Shp → Mem → Prop} {pc pc' : Nat} {rest : List Value} {S : Shp} {I : Mem} {x0 : Option Value} {r : List (Option Value)} {v : Int32} (hd : decode cc pc = .ok (.iload_n 1, 1)) (hp : pc + 1 = pc') (k : PW G own nm cc nL ret d kc ks Q pc' (x0 :: some (.int v) :: r) (.int v :: rest) S I) : PW G own nm cc nL ret d kc ks Q pc (x0 :: some (.int v) :: r) rest S I := by
  subst hp
  intro p e R s m args below meth c H locs cells slots arr hC
  exact lv_iload_n hC.1 hC.2.1 hd rfl (hC.2.2.2.2.2.2.2.2.2.2.2.1.2.2 1 (.int v) rfl) (k p e R s m args below meth c H locs cells slots arr hC)
theorem P_aload1 {G : GX} {own nm : String} {cc : ByteArray} {nL : Nat} {ret : Option FieldType} {d kc ks : Nat} {Q : Option Value → Shp → Mem → Prop} {pc pc' : Nat} {rest : List Value} {S : Shp} {I : Mem} {x0 : Option Value} {r : List (Option Value)} {v : Nat} (hd : decode cc pc = .ok (.aload_n 1, 1)) (hp : pc + 1 = pc') (k : PW G own nm cc nL ret d kc ks Q pc' (x0 :: some (.ref v) :: r) (.ref v :: rest) S I) : PW G own nm cc nL ret d kc ks Q pc (x0 :: some (.ref v) :: r) rest S I := by
  subst hp
  intro p e R s m args below meth c H locs cells slots arr hC
  exact lv_aload_n hC.1 hC.2.1 hd rfl (hC.2.2.2.2.2.2.2.2.2.2.2.1.2.2 1 (.ref v) rfl) (k p e R s m args below meth c H locs cells slots arr hC)
theorem P_istore1 {G : GX} {own nm : String} {cc : ByteArray} {nL : Nat} {ret : Option FieldType} {d kc ks : Nat} {Q : Option Value → Shp → Mem → Prop} {pc pc' : Nat} {rest : List Value} {S : Shp} {I : Mem} {x0 : Option Value} {r : List (Option Value)} {o : Option Value} {v : Int32} (hd : decode cc pc = .ok (.istore_n 1, 1)) (hp : pc + 1 = pc') (hn : 1 < nL) (h0 : lc1 x0 = true) (k : PW G own nm cc nL ret d kc ks Q pc' (x0 :: some (.int v) :: r) rest S I) : PW G own nm cc nL ret d kc ks Q pc (x0 :: o :: r) (.int v :: rest) S I := by
  subst hp
  intro p e R s m args below meth c H locs cells slots arr hC
  obtain ⟨hx, hb, c1, c2, c3, c4, c5, c6, c7, c8, c9, hl, c10⟩ := hC
  obtain ⟨arr', e1, e2⟩ := lh_store (i := 1) (v := .int v) hl hn (by simp) rfl (fun j w hj hw => by
    have : j = 0 := by omega
    subst this
    have e1 : x0 = some w := Option.some.inj hw
    rw [e1] at h0
    simpa [lc1] using h0)
  have e2 : lh G arr' nL (x0 :: some (.int v) :: r) := e2
  have kk := k p e R s m args below meth c H locs cells slots arr' ⟨hx, hb, c1, c2, c3, c4, c5, c6, c7, c8, c9, e2, c10⟩
  intro T hT X
  obtain ⟨t, a, b⟩ := kk T hT X
  refine ⟨t, ?_, b⟩
  have e1 : storeLocals arr 1 (em G (.int v)) = some arr' := e1
  jvm_step X.here [X.here.top, hx, hb, hd, em]
  first | exact a | exact ⟨arr', e1, a⟩ | exact ⟨rfl, arr', e1, a⟩
theorem P_astore1 {G : GX} {own nm : String} {cc : ByteArray} {nL : Nat} {ret : Option FieldType} {d kc ks : Nat} {Q : Option Value → Shp → Mem → Prop} {pc pc' : Nat} {rest : List Value} {S : Shp} {I : Mem} {x0 : Option Value} {r : List (Option Value)} {o : Option Value} {v : Nat} (hd : decode cc pc = .ok (.astore_n 1, 1)) (hp : pc + 1 = pc') (hn : 1 < nL) (h0 : lc1 x0 = true) (k : PW G own nm cc nL ret d kc ks Q pc' (x0 :: some (.ref v) :: r) rest S I) : PW G own nm cc nL ret d kc ks Q pc (x0 :: o :: r) (.ref v :: rest) S I := by
  subst hp
  intro p e R s m args below meth c H locs cells slots arr hC
  obtain ⟨hx, hb, c1, c2, c3, c4, c5, c6, c7, c8, c9, hl, c10⟩ := hC
  obtain ⟨arr', e1, e2⟩ := lh_store (i := 1) (v := .ref v) hl hn (by simp) rfl (fun j w hj hw => by
    have : j = 0 := by omega
    subst this
    have e1 : x0 = some w := Option.some.inj hw
    rw [e1] at h0
    simpa [lc1] using h0)
  have e2 : lh G arr' nL (x0 :: some (.ref v) :: r) := e2
  have kk := k p e R s m args below meth c H locs cells slots arr' ⟨hx, hb, c1, c2, c3, c4, c5, c6, c7, c8, c9, e2, c10⟩
  intro T hT X
  obtain ⟨t, a, b⟩ := kk T hT X
  refine ⟨t, ?_, b⟩
  have e1 : storeLocals arr 1 (em G (.ref v)) = some arr' := e1
  jvm_step X.here [X.here.top, hx, hb, hd, em]
  first | exact a | exact ⟨arr', e1, a⟩ | exact ⟨rfl, arr', e1, a⟩
theorem P_iinc1 {G : GX} {own nm : String} {cc : ByteArray} {nL : Nat} {ret : Option FieldType} {d kc ks : Nat} {Q : Option Value → Shp → Mem → Prop} {pc pc' : Nat} {rest : List Value} {S : Shp} {I : Mem} {x0 : Option Value} {r : List (Option Value)} {x v : Int32} {n : Int} (hd : decode cc pc = .ok (.iinc 1 n, 3)) (hp : pc + 3 = pc') (hv : x + Int32.ofInt n = v) (hn : 1 < nL) (h0 : lc1 x0 = true) (k : PW G own nm cc nL ret d kc ks Q pc' (x0 :: some (.int v) :: r) rest S I) : PW G own nm cc nL ret d kc ks Q pc (x0 :: some (.int x) :: r) rest S I := by
  subst hp
  intro p e R s m args below meth c H locs cells slots arr hC
  obtain ⟨hx, hb, c1, c2, c3, c4, c5, c6, c7, c8, c9, hl, c10⟩ := hC
  obtain ⟨arr', e1, e2⟩ := lh_store (i := 1) (v := .int v) hl hn (by simp) rfl (fun j w hj hw => by
    have : j = 0 := by omega
    subst this
    have e1 : x0 = some w := Option.some.inj hw
    rw [e1] at h0
    simpa [lc1] using h0)
  have e2 : lh G arr' nL (x0 :: some (.int v) :: r) := e2
  have hi : arr[1]? = some (.val (.int x)) := hl.2.2 1 (.int x) rfl
  have kk := k p e R s m args below meth c H locs cells slots arr' ⟨hx, hb, c1, c2, c3, c4, c5, c6, c7, c8, c9, e2, c10⟩
  intro T hT X
  obtain ⟨t, a, b⟩ := kk T hT X
  refine ⟨t, ?_, b⟩
  have e1 : storeLocals arr 1 (.int v) = some arr' := e1
  rw [← hv] at e1
  jvm_step X.here [X.here.top, hx, hb, hd, hi, e1]
  exact a
theorem P_iload2 {G : GX} {own nm : String} {cc : ByteArray} {nL : Nat} {ret : Option FieldType} {d kc ks : Nat} {Q : Option Value → Shp → Mem → Prop} {pc pc' : Nat} {rest : List Value} {S : Shp} {I : Mem} {x0 x1 : Option Value} {r : List (Option Value)} {v : Int32} (hd : decode cc pc = .ok (.iload_n 2, 1)) (hp : pc + 1 = pc') (k : PW G own nm cc nL ret d kc ks Q pc' (x0 :: x1 :: some (.int v) :: r) (.int v :: rest) S I) : PW G own nm cc nL ret d kc ks Q pc (x0 :: x1 :: some (.int v) :: r) rest S I := by
  subst hp
  intro p e R s m args below meth c H locs cells slots arr hC
  exact lv_iload_n hC.1 hC.2.1 hd rfl (hC.2.2.2.2.2.2.2.2.2.2.2.1.2.2 2 (.int v) rfl) (k p e R s m args below meth c H locs cells slots arr hC)
theorem P_aload2 {G : GX} {own nm : String} {cc : ByteArray} {nL : Nat} {ret : Option FieldType} {d kc ks : Nat} {Q : Option Value → Shp → Mem → Prop} {pc pc' : Nat} {rest : List Value} {S : Shp} {I : Mem} {x0 x1 : Option Value} {r : List (Option Value)} {v : Nat} (hd : decode cc pc = .ok (.aload_n 2, 1)) (hp : pc + 1 = pc') (k : PW G own nm cc nL ret d kc ks Q pc' (x0 :: x1 :: some (.ref v) :: r) (.ref v :: rest) S I) : PW G own nm cc nL ret d kc ks Q pc (x0 :: x1 :: some (.ref v) :: r) rest S I := by
  subst hp
  intro p e R s m args below meth c H locs cells slots arr hC
  exact lv_aload_n hC.1 hC.2.1 hd rfl (hC.2.2.2.2.2.2.2.2.2.2.2.1.2.2 2 (.ref v) rfl) (k p e R s m args below meth c H locs cells slots arr hC)
theorem P_istore2 {G : GX} {own nm : String} {cc : ByteArray} {nL : Nat} {ret : Option FieldType} {d kc ks : Nat} {Q : Option Value → Shp → Mem → Prop} {pc pc' : Nat} {rest : List Value} {S : Shp} {I : Mem} {x0 x1 : Option Value} {r : List (Option Value)} {o : Option Value} {v : Int32} (hd : decode cc pc = .ok (.istore_n 2, 1)) (hp : pc + 1 = pc') (hn : 2 < nL) (h1 : lc1 x1 = true) (k : PW G own nm cc nL ret d kc ks Q pc' (x0 :: x1 :: some (.int v) :: r) rest S I) : PW G own nm cc nL ret d kc ks Q pc (x0 :: x1 :: o :: r) (.int v :: rest) S I := by
  subst hp
  intro p e R s m args below meth c H locs cells slots arr hC
  obtain ⟨hx, hb, c1, c2, c3, c4, c5, c6, c7, c8, c9, hl, c10⟩ := hC
  obtain ⟨arr', e1, e2⟩ := lh_store (i := 2) (v := .int v) hl hn (by simp) rfl (fun j w hj hw => by
    have : j = 1 := by omega
    subst this
    have e1 : x1 = some w := Option.some.inj hw
    rw [e1] at h1
    simpa [lc1] using h1)
  have e2 : lh G arr' nL (x0 :: x1 :: some (.int v) :: r) := e2
  have kk := k p e R s m args below meth c H locs cells slots arr' ⟨hx, hb, c1, c2, c3, c4, c5, c6, c7, c8, c9, e2, c10⟩
  intro T hT X
  obtain ⟨t, a, b⟩ := kk T hT X
  refine ⟨t, ?_, b⟩
  have e1 : storeLocals arr 2 (em G (.int v)) = some arr' := e1
  jvm_step X.here [X.here.top, hx, hb, hd, em]
  first | exact a | exact ⟨arr', e1, a⟩ | exact ⟨rfl, arr', e1, a⟩
theorem P_astore2 {G : GX} {own nm : String} {cc : ByteArray} {nL : Nat} {ret : Option FieldType} {d kc ks : Nat} {Q : Option Value → Shp → Mem → Prop} {pc pc' : Nat} {rest : List Value} {S : Shp} {I : Mem} {x0 x1 : Option Value} {r : List (Option Value)} {o : Option Value} {v : Nat} (hd : decode cc pc = .ok (.astore_n 2, 1)) (hp : pc + 1 = pc') (hn : 2 < nL) (h1 : lc1 x1 = true) (k : PW G own nm cc nL ret d kc ks Q pc' (x0 :: x1 :: some (.ref v) :: r) rest S I) : PW G own nm cc nL ret d kc ks Q pc (x0 :: x1 :: o :: r) (.ref v :: rest) S I := by
  subst hp
  intro p e R s m args below meth c H locs cells slots arr hC
  obtain ⟨hx, hb, c1, c2, c3, c4, c5, c6, c7, c8, c9, hl, c10⟩ := hC
  obtain ⟨arr', e1, e2⟩ := lh_store (i := 2) (v := .ref v) hl hn (by simp) rfl (fun j w hj hw => by
    have : j = 1 := by omega
    subst this
    have e1 : x1 = some w := Option.some.inj hw
    rw [e1] at h1
    simpa [lc1] using h1)
  have e2 : lh G arr' nL (x0 :: x1 :: some (.ref v) :: r) := e2
  have kk := k p e R s m args below meth c H locs cells slots arr' ⟨hx, hb, c1, c2, c3, c4, c5, c6, c7, c8, c9, e2, c10⟩
  intro T hT X
  obtain ⟨t, a, b⟩ := kk T hT X
  refine ⟨t, ?_, b⟩
  have e1 : storeLocals arr 2 (em G (.ref v)) = some arr' := e1
  jvm_step X.here [X.here.top, hx, hb, hd, em]
  first | exact a | exact ⟨arr', e1, a⟩ | exact ⟨rfl, arr', e1, a⟩
theorem P_iinc2 {G : GX} {own nm : String} {cc : ByteArray} {nL : Nat} {ret : Option FieldType} {d kc ks : Nat} {Q : Option Value → Shp → Mem → Prop} {pc pc' : Nat} {rest : List Value} {S : Shp} {I : Mem} {x0 x1 : Option Value} {r : List (Option Value)} {x v : Int32} {n : Int} (hd : decode cc pc = .ok (.iinc 2 n, 3)) (hp : pc + 3 = pc') (hv : x + Int32.ofInt n = v) (hn : 2 < nL) (h1 : lc1 x1 = true) (k : PW G own nm cc nL ret d kc ks Q pc' (x0 :: x1 :: some (.int v) :: r) rest S I) : PW G own nm cc nL ret d kc ks Q pc (x0 :: x1 :: some (.int x) :: r) rest S I := by
  subst hp
  intro p e R s m args below meth c H locs cells slots arr hC
  obtain ⟨hx, hb, c1, c2, c3, c4, c5, c6, c7, c8, c9, hl, c10⟩ := hC
  obtain ⟨arr', e1, e2⟩ := lh_store (i := 2) (v := .int v) hl hn (by simp) rfl (fun j w hj hw => by
    have : j = 1 := by omega
    subst this
    have e1 : x1 = some w := Option.some.inj hw
    rw [e1] at h1
    simpa [lc1] using h1)
  have e2 : lh G arr' nL (x0 :: x1 :: some (.int v) :: r) := e2
  have hi : arr[2]? = some (.val (.int x)) := hl.2.2 2 (.int x) rfl
  have kk := k p e R s m args below meth c H locs cells slots arr' ⟨hx, hb, c1, c2, c3, c4, c5, c6, c7, c8, c9, e2, c10⟩
  intro T hT X
  obtain ⟨t, a, b⟩ := kk T hT X
  refine ⟨t, ?_, b⟩
  have e1 : storeLocals arr 2 (.int v) = some arr' := e1
  rw [← hv] at e1
  jvm_step X.here [X.here.top, hx, hb, hd, hi, e1]
  exact a
theorem P_iload3 {G : GX} {own nm : String} {cc : ByteArray} {nL : Nat} {ret : Option FieldType} {d kc ks : Nat} {Q : Option Value → Shp → Mem → Prop} {pc pc' : Nat} {rest : List Value} {S : Shp} {I : Mem} {x0 x1 x2 : Option Value} {r : List (Option Value)} {v : Int32} (hd : decode cc pc = .ok (.iload_n 3, 1)) (hp : pc + 1 = pc') (k : PW G own nm cc nL ret d kc ks Q pc' (x0 :: x1 :: x2 :: some (.int v) :: r) (.int v :: rest) S I) : PW G own nm cc nL ret d kc ks Q pc (x0 :: x1 :: x2 :: some (.int v) :: r) rest S I := by
  subst hp
  intro p e R s m args below meth c H locs cells slots arr hC
  exact lv_iload_n hC.1 hC.2.1 hd rfl (hC.2.2.2.2.2.2.2.2.2.2.2.1.2.2 3 (.int v) rfl) (k p e R s m args below meth c H locs cells slots arr hC)
theorem P_aload3 {G : GX} {own nm : String} {cc : ByteArray} {nL : Nat} {ret : Option FieldType} {d kc ks : Nat} {Q : Option Value → Shp → Mem → Prop} {pc pc' : Nat} {rest : List Value} {S : Shp} {I : Mem} {x0 x1 x2 : Option Value} {r : List (Option Value)} {v : Nat} (hd : decode cc pc = .ok (.aload_n 3, 1)) (hp : pc + 1 = pc') (k : PW G own nm cc nL ret d kc ks Q pc' (x0 :: x1 :: x2 :: some (.ref v) :: r) (.ref v :: rest) S I) : PW G own nm cc nL ret d kc ks Q pc (x0 :: x1 :: x2 :: some (.ref v) :: r) rest S I := by
  subst hp
  intro p e R s m args below meth c H locs cells slots arr hC
  exact lv_aload_n hC.1 hC.2.1 hd rfl (hC.2.2.2.2.2.2.2.2.2.2.2.1.2.2 3 (.ref v) rfl) (k p e R s m args below meth c H locs cells slots arr hC)
theorem P_lload3 {G : GX} {own nm : String} {cc : ByteArray} {nL : Nat} {ret : Option FieldType} {d kc ks : Nat} {Q : Option Value → Shp → Mem → Prop} {pc pc' : Nat} {rest : List Value} {S : Shp} {I : Mem} {x0 x1 x2 : Option Value} {r : List (Option Value)} {v : Int64} (hd : decode cc pc = .ok (.lload_n 3, 1)) (hp : pc + 1 = pc') (k : PW G own nm cc nL ret d kc ks Q pc' (x0 :: x1 :: x2 :: some (.long v) :: r) (.long v :: rest) S I) : PW G own nm cc nL ret d kc ks Q pc (x0 :: x1 :: x2 :: some (.long v) :: r) rest S I := by
  subst hp
  intro p e R s m args below meth c H locs cells slots arr hC
  exact lv_lload_n hC.1 hC.2.1 hd rfl (hC.2.2.2.2.2.2.2.2.2.2.2.1.2.2 3 (.long v) rfl) (k p e R s m args below meth c H locs cells slots arr hC)
theorem P_istore3 {G : GX} {own nm : String} {cc : ByteArray} {nL : Nat} {ret : Option FieldType} {d kc ks : Nat} {Q : Option Value → Shp → Mem → Prop} {pc pc' : Nat} {rest : List Value} {S : Shp} {I : Mem} {x0 x1 x2 : Option Value} {r : List (Option Value)} {o : Option Value} {v : Int32} (hd : decode cc pc = .ok (.istore_n 3, 1)) (hp : pc + 1 = pc') (hn : 3 < nL) (h2 : lc1 x2 = true) (k : PW G own nm cc nL ret d kc ks Q pc' (x0 :: x1 :: x2 :: some (.int v) :: r) rest S I) : PW G own nm cc nL ret d kc ks Q pc (x0 :: x1 :: x2 :: o :: r) (.int v :: rest) S I := by
  subst hp
  intro p e R s m args below meth c H locs cells slots arr hC
  obtain ⟨hx, hb, c1, c2, c3, c4, c5, c6, c7, c8, c9, hl, c10⟩ := hC
  obtain ⟨arr', e1, e2⟩ := lh_store (i := 3) (v := .int v) hl hn (by simp) rfl (fun j w hj hw => by
    have : j = 2 := by omega
    subst this
    have e1 : x2 = some w := Option.some.inj hw
    rw [e1] at h2
    simpa [lc1] using h2)
  have e2 : lh G arr' nL (x0 :: x1 :: x2 :: some (.int v) :: r) := e2
  have kk := k p e R s m args below meth c H locs cells slots arr' ⟨hx, hb, c1, c2, c3, c4, c5, c6, c7, c8, c9, e2, c10⟩
  intro T hT X
  obtain ⟨t, a, b⟩ := kk T hT X
  refine ⟨t, ?_, b⟩
  have e1 : storeLocals arr 3 (em G (.int v)) = some arr' := e1
  jvm_step X.here [X.here.top, hx, hb, hd, em]
  first | exact a | exact ⟨arr', e1, a⟩ | exact ⟨rfl, arr', e1, a⟩
theorem P_astore3 {G : GX} {own nm : String} {cc : ByteArray} {nL : Nat} {ret : Option FieldType} {d kc ks : Nat} {Q : Option Value → Shp → Mem → Prop} {pc pc' : Nat} {rest : List Value} {S : Shp} {I : Mem} {x0 x1 x2 : Option Value} {r : List (Option Value)} {o : Option Value} {v : Nat} (hd : decode cc pc = .ok (.astore_n 3, 1)) (hp : pc + 1 = pc') (hn : 3 < nL) (h2 : lc1 x2 = true) (k : PW G own nm cc nL ret d kc ks Q pc' (x0 :: x1 :: x2 :: some (.ref v) :: r) rest S I) : PW G own nm cc nL ret d kc ks Q pc (x0 :: x1 :: x2 :: o :: r) (.ref v :: rest) S I := by
  subst hp
  intro p e R s m args below meth c H locs cells slots arr hC
  obtain ⟨hx, hb, c1, c2, c3, c4, c5, c6, c7, c8, c9, hl, c10⟩ := hC
  obtain ⟨arr', e1, e2⟩ := lh_store (i := 3) (v := .ref v) hl hn (by simp) rfl (fun j w hj hw => by
    have : j = 2 := by omega
    subst this
    have e1 : x2 = some w := Option.some.inj hw
    rw [e1] at h2
    simpa [lc1] using h2)
  have e2 : lh G arr' nL (x0 :: x1 :: x2 :: some (.ref v) :: r) := e2
  have kk := k p e R s m args below meth c H locs cells slots arr' ⟨hx, hb, c1, c2, c3, c4, c5, c6, c7, c8, c9, e2, c10⟩
  intro T hT X
  obtain ⟨t, a, b⟩ := kk T hT X
  refine ⟨t, ?_, b⟩
  have e1 : storeLocals arr 3 (em G (.ref v)) = some arr' := e1
  jvm_step X.here [X.here.top, hx, hb, hd, em]
  first | exact a | exact ⟨arr', e1, a⟩ | exact ⟨rfl, arr', e1, a⟩
theorem P_iinc3 {G : GX} {own nm : String} {cc : ByteArray} {nL : Nat} {ret : Option FieldType} {d kc ks : Nat} {Q : Option Value → Shp → Mem → Prop} {pc pc' : Nat} {rest : List Value} {S : Shp} {I : Mem} {x0 x1 x2 : Option Value} {r : List (Option Value)} {x v : Int32} {n : Int} (hd : decode cc pc = .ok (.iinc 3 n, 3)) (hp : pc + 3 = pc') (hv : x + Int32.ofInt n = v) (hn : 3 < nL) (h2 : lc1 x2 = true) (k : PW G own nm cc nL ret d kc ks Q pc' (x0 :: x1 :: x2 :: some (.int v) :: r) rest S I) : PW G own nm cc nL ret d kc ks Q pc (x0 :: x1 :: x2 :: some (.int x) :: r) rest S I := by
  subst hp
  intro p e R s m args below meth c H locs cells slots arr hC
  obtain ⟨hx, hb, c1, c2, c3, c4, c5, c6, c7, c8, c9, hl, c10⟩ := hC
  obtain ⟨arr', e1, e2⟩ := lh_store (i := 3) (v := .int v) hl hn (by simp) rfl (fun j w hj hw => by
    have : j = 2 := by omega
    subst this
    have e1 : x2 = some w := Option.some.inj hw
    rw [e1] at h2
    simpa [lc1] using h2)
  have e2 : lh G arr' nL (x0 :: x1 :: x2 :: some (.int v) :: r) := e2
  have hi : arr[3]? = some (.val (.int x)) := hl.2.2 3 (.int x) rfl
  have kk := k p e R s m args below meth c H locs cells slots arr' ⟨hx, hb, c1, c2, c3, c4, c5, c6, c7, c8, c9, e2, c10⟩
  intro T hT X
  obtain ⟨t, a, b⟩ := kk T hT X
  refine ⟨t, ?_, b⟩
  have e1 : storeLocals arr 3 (.int v) = some arr' := e1
  rw [← hv] at e1
  jvm_step X.here [X.here.top, hx, hb, hd, hi, e1]
  exact a
theorem P_iload4 {G : GX} {own nm : String} {cc : ByteArray} {nL : Nat} {ret : Option FieldType} {d kc ks : Nat} {Q : Option Value → Shp → Mem → Prop} {pc pc' : Nat} {rest : List Value} {S : Shp} {I : Mem} {x0 x1 x2 x3 : Option Value} {r : List (Option Value)} {v : Int32} (hd : decode cc pc = .ok (.iload 4, 2)) (hp : pc + 2 = pc') (k : PW G own nm cc nL ret d kc ks Q pc' (x0 :: x1 :: x2 :: x3 :: some (.int v) :: r) (.int v :: rest) S I) : PW G own nm cc nL ret d kc ks Q pc (x0 :: x1 :: x2 :: x3 :: some (.int v) :: r) rest S I := by
  subst hp
  intro p e R s m args below meth c H locs cells slots arr hC
  exact lv_iload hC.1 hC.2.1 hd (hC.2.2.2.2.2.2.2.2.2.2.2.1.2.2 4 (.int v) rfl) (k p e R s m args below meth c H locs cells slots arr hC)
theorem P_aload4 {G : GX} {own nm : String} {cc : ByteArray} {nL : Nat} {ret : Option FieldType} {d kc ks : Nat} {Q : Option Value → Shp → Mem → Prop} {pc pc' : Nat} {rest : List Value} {S : Shp} {I : Mem} {x0 x1 x2 x3 : Option Value} {r : List (Option Value)} {v : Nat} (hd : decode cc pc = .ok (.aload 4, 2)) (hp : pc + 2 = pc') (k : PW G own nm cc nL ret d kc ks Q pc' (x0 :: x1 :: x2 :: x3 :: some (.ref v) :: r) (.ref v :: rest) S I) : PW G own nm cc nL ret d kc ks Q pc (x0 :: x1 :: x2 :: x3 :: some (.ref v) :: r) rest S I := by
  subst hp
  intro p e R s m args below meth c H locs cells slots arr hC
  exact lv_aload hC.1 hC.2.1 hd (hC.2.2.2.2.2.2.2.2.2.2.2.1.2.2 4 (.ref v) rfl) (k p e R s m args below meth c H locs cells slots arr hC)
theorem P_lload4 {G : GX} {own nm : String} {cc : ByteArray} {nL : Nat} {ret : Option FieldType} {d kc ks : Nat} {Q : Option Value → Shp → Mem → Prop} {pc pc' : Nat} {rest : List Value} {S : Shp} {I : Mem} {x0 x1 x2 x3 : Option Value} {r : List (Option Value)} {v : Int64} (hd : decode cc pc = .ok (.lload 4, 2)) (hp : pc + 2 = pc') (k : PW G own nm cc nL ret d kc ks Q pc' (x0 :: x1 :: x2 :: x3 :: some (.long v) :: r) (.long v :: rest) S I) : PW G own nm cc nL ret d kc ks Q pc (x0 :: x1 :: x2 :: x3 :: some (.long v) :: r) rest S I := by
  subst hp
  intro p e R s m args below meth c H locs cells slots arr hC
  exact lv_lload hC.1 hC.2.1 hd (hC.2.2.2.2.2.2.2.2.2.2.2.1.2.2 4 (.long v) rfl) (k p e R s m args below meth c H locs cells slots arr hC)
theorem P_istore4 {G : GX} {own nm : String} {cc : ByteArray} {nL : Nat} {ret : Option FieldType} {d kc ks : Nat} {Q : Option Value → Shp → Mem → Prop} {pc pc' : Nat} {rest : List Value} {S : Shp} {I : Mem} {x0 x1 x2 x3 : Option Value} {r : List (Option Value)} {o : Option Value} {v : Int32} (hd : decode cc pc = .ok (.istore 4, 2)) (hp : pc + 2 = pc') (hn : 4 < nL) (h3 : lc1 x3 = true) (k : PW G own nm cc nL ret d kc ks Q pc' (x0 :: x1 :: x2 :: x3 :: some (.int v) :: r) rest S I) : PW G own nm cc nL ret d kc ks Q pc (x0 :: x1 :: x2 :: x3 :: o :: r) (.int v :: rest) S I := by
  subst hp
  intro p e R s m args below meth c H locs cells slots arr hC
  obtain ⟨hx, hb, c1, c2, c3, c4, c5, c6, c7, c8, c9, hl, c10⟩ := hC
  obtain ⟨arr', e1, e2⟩ := lh_store (i := 4) (v := .int v) hl hn (by simp) rfl (fun j w hj hw => by
    have : j = 3 := by omega
    subst this
    have e1 : x3 = some w := Option.some.inj hw
    rw [e1] at h3
    simpa [lc1] using h3)
  have e2 : lh G arr' nL (x0 :: x1 :: x2 :: x3 :: some (.int v) :: r) := e2
  have kk := k p e R s m args below meth c H locs cells slots arr' ⟨hx, hb, c1, c2, c3, c4, c5, c6, c7, c8, c9, e2, c10⟩
  intro T hT X
  obtain ⟨t, a, b⟩ := kk T hT X
  refine ⟨t, ?_, b⟩
  have e1 : storeLocals arr 4 (em G (.int v)) = some arr' := e1
  jvm_step X.here [X.here.top, hx, hb, hd, em]
  first | exact a | exact ⟨arr', e1, a⟩ | exact ⟨rfl, arr', e1, a⟩
theorem P_astore4 {G : GX} {own nm : String} {cc : ByteArray} {nL : Nat} {ret : Option FieldType} {d kc ks : Nat} {Q : Option Value → Shp → Mem → Prop} {pc pc' : Nat} {rest : List Value} {S : Shp} {I : Mem} {x0 x1 x2 x3 : Option Value} {r : List (Option Value)} {o : Option Value} {v : Nat} (hd : decode cc pc = .ok (.astore 4, 2)) (hp : pc + 2 = pc') (hn : 4 < nL) (h3 : lc1 x3 = true) (k : PW G own nm cc nL ret d kc ks Q pc' (x0 :: x1 :: x2 :: x3 :: some (.ref v) :: r) rest S I) : PW G own nm cc nL ret d kc ks Q pc (x0 :: x1 :: x2 :: x3 :: o :: r) (.ref v :: rest) S I := by
  subst hp
  intro p e R s m args below meth c H locs cells slots arr hC
  obtain ⟨hx, hb, c1, c2, c3, c4, c5, c6, c7, c8, c9, hl, c10⟩ := hC
  obtain ⟨arr', e1, e2⟩ := lh_store (i := 4) (v := .ref v) hl hn (by simp) rfl (fun j w hj hw => by
    have : j = 3 := by omega
    subst this
    have e1 : x3 = some w := Option.some.inj hw
    rw [e1] at h3
    simpa [lc1] using h3)
  have e2 : lh G arr' nL (x0 :: x1 :: x2 :: x3 :: some (.ref v) :: r) := e2
  have kk := k p e R s m args below meth c H locs cells slots arr' ⟨hx, hb, c1, c2, c3, c4, c5, c6, c7, c8, c9, e2, c10⟩
  intro T hT X
  obtain ⟨t, a, b⟩ := kk T hT X
  refine ⟨t, ?_, b⟩
  have e1 : storeLocals arr 4 (em G (.ref v)) = some arr' := e1
  jvm_step X.here [X.here.top, hx, hb, hd, em]
  first | exact a | exact ⟨arr', e1, a⟩ | exact ⟨rfl, arr', e1, a⟩
theorem P_iinc4 {G : GX} {own nm : String} {cc : ByteArray} {nL : Nat} {ret : Option FieldType} {d kc ks : Nat} {Q : Option Value → Shp → Mem → Prop} {pc pc' : Nat} {rest : List Value} {S : Shp} {I : Mem} {x0 x1 x2 x3 : Option Value} {r : List (Option Value)} {x v : Int32} {n : Int} (hd : decode cc pc = .ok (.iinc 4 n, 3)) (hp : pc + 3 = pc') (hv : x + Int32.ofInt n = v) (hn : 4 < nL) (h3 : lc1 x3 = true) (k : PW G own nm cc nL ret d kc ks Q pc' (x0 :: x1 :: x2 :: x3 :: some (.int v) :: r) rest S I) : PW G own nm cc nL ret d kc ks Q pc (x0 :: x1 :: x2 :: x3 :: some (.int x) :: r) rest S I := by
  subst hp
  intro p e R s m args below meth c H locs cells slots arr hC
  obtain ⟨hx, hb, c1, c2, c3, c4, c5, c6, c7, c8, c9, hl, c10⟩ := hC
  obtain ⟨arr', e1, e2⟩ := lh_store (i := 4) (v := .int v) hl hn (by simp) rfl (fun j w hj hw => by
    have : j = 3 := by omega
    subst this
    have e1 : x3 = some w := Option.some.inj hw
    rw [e1] at h3
    simpa [lc1] using h3)
  have e2 : lh G arr' nL (x0 :: x1 :: x2 :: x3 :: some (.int v) :: r) := e2
  have hi : arr[4]? = some (.val (.int x)) := hl.2.2 4 (.int x) rfl
  have kk := k p e R s m args below meth c H locs cells slots arr' ⟨hx, hb, c1, c2, c3, c4, c5, c6, c7, c8, c9, e2, c10⟩
  intro T hT X
  obtain ⟨t, a, b⟩ := kk T hT X
  refine ⟨t, ?_, b⟩
  have e1 : storeLocals arr 4 (.int v) = some arr' := e1
  rw [← hv] at e1
  jvm_step X.here [X.here.top, hx, hb, hd, hi, e1]
  exact a
theorem P_lstore4 {G : GX} {own nm : String} {cc : ByteArray} {nL : Nat} {ret : Option FieldType} {d kc ks : Nat} {Q : Option Value → Shp → Mem → Prop} {pc pc' : Nat} {rest : List Value} {S : Shp} {I : Mem} {x0 x1 x2 x3 : Option Value} {r : List (Option Value)} {o o2 : Option Value} {v : Int64} (hd : decode cc pc = .ok (.lstore 4, 2)) (hp : pc + 2 = pc') (hn : 4 + 1 < nL) (h3 : lc1 x3 = true) (k : PW G own nm cc nL ret d kc ks Q pc' (x0 :: x1 :: x2 :: x3 :: some (.long v) :: none :: r) rest S I) : PW G own nm cc nL ret d kc ks Q pc (x0 :: x1 :: x2 :: x3 :: o :: o2 :: r) (.long v :: rest) S I := by
  subst hp
  intro p e R s m args below meth c H locs cells slots arr hC
  obtain ⟨hx, hb, c1, c2, c3, c4, c5, c6, c7, c8, c9, hl, c10⟩ := hC
  obtain ⟨arr', e1, e2⟩ := lh_storeL (i := 4) (x := v) hl hn (by simp) (fun j w hj hw => by
    have : j = 3 := by omega
    subst this
    have e1 : x3 = some w := Option.some.inj hw
    rw [e1] at h3
    simpa [lc1] using h3)
  have e2 : lh G arr' nL (x0 :: x1 :: x2 :: x3 :: some (.long v) :: none :: r) := e2
  have kk := k p e R s m args below meth c H locs cells slots arr' ⟨hx, hb, c1, c2, c3, c4, c5, c6, c7, c8, c9, e2, c10⟩
  intro T hT X
  obtain ⟨t, a, b⟩ := kk T hT X
  refine ⟨t, ?_, b⟩
  jvm_step X.here [X.here.top, hx, hb, hd, em]
  first | exact a | exact ⟨arr', e1, a⟩ | exact ⟨rfl, arr', e1, a⟩
theorem P_iload5 {G : GX} {own nm : String} {cc : ByteArray} {nL : Nat} {ret : Option FieldType} {d kc ks : Nat} {Q : Option Value → Shp → Mem → Prop} {pc pc' : Nat} {rest : List Value} {S : Shp} {I : Mem} {x0 x1 x2 x3 x4 : Option Value} {r : List (Option Value)} {v : Int32} (hd : decode cc pc = .ok (.iload 5, 2)) (hp : pc + 2 = pc') (k : PW G own nm cc nL ret d kc ks Q pc' (x0 :: x1 :: x2 :: x3 :: x4 :: some (.int v) :: r) (.int v :: rest) S I) : PW G own nm cc nL ret d kc ks Q pc (x0 :: x1 :: x2 :: x3 :: x4 :: some (.int v) :: r) rest S I := by
  subst hp
  intro p e R s m args below meth c H locs cells slots arr hC
  exact lv_iload hC.1 hC.2.1 hd (hC.2.2.2.2.2.2.2.2.2.2.2.1.2.2 5 (.int v) rfl) (k p e R s m args below meth c H locs cells slots arr hC)
theorem P_aload5 {G : GX} {own nm : String} {cc : ByteArray} {nL : Nat} {ret : Option FieldType} {d kc ks : Nat} {Q : Option Value → Shp → Mem → Prop} {pc pc' : Nat} {rest : List Value} {S : Shp} {I : Mem} {x0 x1 x2 x3 x4 : Option Value} {r : List (Option Value)} {v : Nat} (hd : decode cc pc = .ok (.aload 5, 2)) (hp : pc + 2 = pc') (k : PW G own nm cc nL ret d kc ks Q pc' (x0 :: x1 :: x2 :: x3 :: x4 :: some (.ref v) :: r) (.ref v :: rest) S I) : PW G own nm cc nL ret d kc ks Q pc (x0 :: x1 :: x2 :: x3 :: x4 :: some (.ref v) :: r) rest S I := by
  subst hp
  intro p e R s m args below meth c H locs cells slots arr hC
  exact lv_aload hC.1 hC.2.1 hd (hC.2.2.2.2.2.2.2.2.2.2.2.1.2.2 5 (.ref v) rfl) (k p e R s m args below meth c H locs cells slots arr hC)
theorem P_lload5 {G : GX} {own nm : String} {cc : ByteArray} {nL : Nat} {ret : Option FieldType} {d kc ks : Nat} {Q : Option Value → Shp → Mem → Prop} {pc pc' : Nat} {rest : List Value} {S : Shp} {I : Mem} {x0 x1 x2 x3 x4 : Option Value} {r : List (Option Value)} {v : Int64} (hd : decode cc pc = .ok (.lload 5, 2)) (hp : pc + 2 = pc') (k : PW G own nm cc nL ret d kc ks Q pc' (x0 :: x1 :: x2 :: x3 :: x4 :: some (.long v) :: r) (.long v :: rest) S I) : PW G own nm cc nL ret d kc ks Q pc (x0 :: x1 :: x2 :: x3 :: x4 :: some (.long v) :: r) rest S I := by
  subst hp
  intro p e R s m args below meth c H locs cells slots arr hC
  exact lv_lload hC.1 hC.2.1 hd (hC.2.2.2.2.2.2.2.2.2.2.2.1.2.2 5 (.long v) rfl) (k p e R s m args below meth c H locs cells slots arr hC)
theorem P_istore5 {G : GX} {own nm : String} {cc : ByteArray} {nL : Nat} {ret : Option FieldType} {d kc ks : Nat} {Q : Option Value → Shp → Mem → Prop} {pc pc' : Nat} {rest : List Value} {S : Shp} {I : Mem} {x0 x1 x2 x3 x4 : Option Value} {r : List (Option Value)} {o : Option Value} {v : Int32} (hd : decode cc pc = .ok (.istore 5, 2)) (hp : pc + 2 = pc') (hn : 5 < nL) (h4 : lc1 x4 = true) (k : PW G own nm cc nL ret d kc ks Q pc' (x0 :: x1 :: x2 :: x3 :: x4 :: some (.int v) :: r) rest S I) : PW G own nm cc nL ret d kc ks Q pc (x0 :: x1 :: x2 :: x3 :: x4 :: o :: r) (.int v :: rest) S I := by
  subst hp
  intro p e R s m args below meth c H locs cells slots arr hC
  obtain ⟨hx, hb, c1, c2, c3, c4, c5, c6, c7, c8, c9, hl, c10⟩ := hC
  obtain ⟨arr', e1, e2⟩ := lh_store (i := 5) (v := .int v) hl hn (by simp) rfl (fun j w hj hw => by
    have : j = 4 := by omega
    subst this
    have e1 : x4 = some w := Option.some.inj hw
    rw [e1] at h4
    simpa [lc1] using h4)
  have e2 : lh G arr' nL (x0 :: x1 :: x2 :: x3 :: x4 :: some (.int v) :: r) := e2
  have kk := k p e R s m args below meth c H locs cells slots arr' ⟨hx, hb, c1, c2, c3, c4, c5, c6, c7, c8, c9, e2, c10⟩
  intro T hT X
  obtain ⟨t, a, b⟩ := kk T hT X
  refine ⟨t, ?_, b⟩
  have e1 : storeLocals arr 5 (em G (.int v)) = some arr' := e1
  jvm_step X.here [X.here.top, hx, hb, hd, em]
  first | exact a | exact ⟨arr', e1, a⟩ | exact ⟨rfl, arr', e1, a⟩
theorem P_astore5 {G : GX} {own nm : String} {cc : ByteArray} {nL : Nat} {ret : Option FieldType} {d kc ks : Nat} {Q : Option Value → Shp → Mem → Prop} {pc pc' : Nat} {rest : List Value} {S : Shp} {I : Mem} {x0 x1 x2 x3 x4 : Option Value} {r : List (Option Value)} {o : Option Value} {v : Nat} (hd : decode cc pc = .ok (.astore 5, 2)) (hp : pc + 2 = pc') (hn : 5 < nL) (h4 : lc1 x4 = true) (k : PW G own nm cc nL ret d kc ks Q pc' (x0 :: x1 :: x2 :: x3 :: x4 :: some (.ref v) :: r) rest S I) : PW G own nm cc nL ret d kc ks Q pc (x0 :: x1 :: x2 :: x3 :: x4 :: o :: r) (.ref v :: rest) S I := by
  subst hp
  intro p e R s m args below meth c H locs cells slots arr hC
  obtain ⟨hx, hb, c1, c2, c3, c4, c5, c6, c7, c8, c9, hl, c10⟩ := hC
  obtain ⟨arr', e1, e2⟩ := lh_store (i := 5) (v := .ref v) hl hn (by simp) rfl (fun j w hj hw => by
    have : j = 4 := by omega
    subst this
    have e1 : x4 = some w := Option.some.inj hw
    rw [e1] at h4
    simpa [lc1] using h4)
  have e2 : lh G arr' nL (x0 :: x1 :: x2 :: x3 :: x4 :: some (.ref v) :: r) := e2
  have kk := k p e R s m args below meth c H locs cells slots arr' ⟨hx, hb, c1, c2, c3, c4, c5, c6, c7, c8, c9, e2, c10⟩
  intro T hT X
  obtain ⟨t, a, b⟩ := kk T hT X
  refine ⟨t, ?_, b⟩
  have e1 : storeLocals arr 5 (em G (.ref v)) = some arr' := e1
  jvm_step X.here [X.here.top, hx, hb, hd, em]
  first | exact a | exact ⟨arr', e1, a⟩ | exact ⟨rfl, arr', e1, a⟩
theorem P_iinc5 {G : GX} {own nm : String} {cc : ByteArray} {nL : Nat} {ret : Option FieldType} {d kc ks : Nat} {Q : Option Value → Shp → Mem → Prop} {pc pc' : Nat} {rest : List Value} {S : Shp} {I : Mem} {x0 x1 x2 x3 x4 : Option Value} {r : List (Option Value)} {x v : Int32} {n : Int} (hd : decode cc pc = .ok (.iinc 5 n, 3)) (hp : pc + 3 = pc') (hv : x + Int32.ofInt n = v) (hn : 5 < nL) (h4 : lc1 x4 = true) (k : PW G own nm cc nL ret d kc ks Q pc' (x0 :: x1 :: x2 :: x3 :: x4 :: some (.int v) :: r) rest S I) : PW G own nm cc nL ret d kc ks Q pc (x0 :: x1 :: x2 :: x3 :: x4 :: some (.int x) :: r) rest S I := by
  subst hp
  intro p e R s m args below meth c H locs cells slots arr hC
  obtain ⟨hx, hb, c1, c2, c3, c4, c5, c6, c7, c8, c9, hl, c10⟩ := hC
  obtain ⟨arr', e1, e2⟩ := lh_store (i := 5) (v := .int v) hl hn (by simp) rfl (fun j w hj hw => by
    have : j = 4 := by omega
    subst this
    have e1 : x4 = some w := Option.some.inj hw
    rw [e1] at h4
    simpa [lc1] using h4)
  have e2 : lh G arr' nL (x0 :: x1 :: x2 :: x3 :: x4 :: some (.int v) :: r) := e2
  have hi : arr[5]? = some (.val (.int x)) := hl.2.2 5 (.int x) rfl
  have kk := k p e R s m args below meth c H locs cells slots arr' ⟨hx, hb, c1, c2, c3, c4, c5, c6, c7, c8, c9, e2, c10⟩
  intro T hT X
  obtain ⟨t, a, b⟩ := kk T hT X
  refine ⟨t, ?_, b⟩
  have e1 : storeLocals arr 5 (.int v) = some arr' := e1
  rw [← hv] at e1
  jvm_step X.here [X.here.top, hx, hb, hd, hi, e1]
  exact a
theorem P_lstore5 {G : GX} {own nm : String} {cc : ByteArray} {nL : Nat} {ret : Option FieldType} {d kc ks : Nat} {Q : Option Value → Shp → Mem → Prop} {pc pc' : Nat} {rest : List Value} {S : Shp} {I : Mem} {x0 x1 x2 x3 x4 : Option Value} {r : List (Option Value)} {o o2 : Option Value} {v : Int64} (hd : decode cc pc = .ok (.lstore 5, 2)) (hp : pc + 2 = pc') (hn : 5 + 1 < nL) (h4 : lc1 x4 = true) (k : PW G own nm cc nL ret d kc ks Q pc' (x0 :: x1 :: x2 :: x3 :: x4 :: some (.long v) :: none :: r) rest S I) : PW G own nm cc nL ret d kc ks Q pc (x0 :: x1 :: x2 :: x3 :: x4 :: o :: o2 :: r) (.long v :: rest) S I := by
  subst hp
  intro p e R s m args below meth c H locs cells slots arr hC
  obtain ⟨hx, hb, c1, c2, c3, c4, c5, c6, c7, c8, c9, hl, c10⟩ := hC
  obtain ⟨arr', e1, e2⟩ := lh_storeL (i := 5) (x := v) hl hn (by simp) (fun j w hj hw => by
    have : j = 4 := by omega
    subst this
    have e1 : x4 = some w := Option.some.inj hw
    rw [e1] at h4
    simpa [lc1] using h4)
  have e2 : lh G arr' nL (x0 :: x1 :: x2 :: x3 :: x4 :: some (.long v) :: none :: r) := e2
  have kk := k p e R s m args below meth c H locs cells slots arr' ⟨hx, hb, c1, c2, c3, c4, c5, c6, c7, c8, c9, e2, c10⟩
  intro T hT X
  obtain ⟨t, a, b⟩ := kk T hT X
  refine ⟨t, ?_, b⟩
  jvm_step X.here [X.here.top, hx, hb, hd, em]
  first | exact a | exact ⟨arr', e1, a⟩ | exact ⟨rfl, arr', e1, a⟩
theorem P_iload6 {G : GX} {own nm : String} {cc : ByteArray} {nL : Nat} {ret : Option FieldType} {d kc ks : Nat} {Q : Option Value → Shp → Mem → Prop} {pc pc' : Nat} {rest : List Value} {S : Shp} {I : Mem} {x0 x1 x2 x3 x4 x5 : Option Value} {r : List (Option Value)} {v : Int32} (hd : decode cc pc = .ok (.iload 6, 2)) (hp : pc + 2 = pc') (k : PW G own nm cc nL ret d kc ks Q pc' (x0 :: x1 :: x2 :: x3 :: x4 :: x5 :: some (.int v) :: r) (.int v :: rest) S I) : PW G own nm cc nL ret d kc ks Q pc (x0 :: x1 :: x2 :: x3 :: x4 :: x5 :: some (.int v) :: r) rest S I := by
  subst hp
  intro p e R s m args below meth c H locs cells slots arr hC
  exact lv_iload hC.1 hC.2.1 hd (hC.2.2.2.2.2.2.2.2.2.2.2.1.2.2 6 (.int v) rfl) (k p e R s m args below meth c H locs cells slots arr hC)
theorem P_aload6 {G : GX} {own nm : String} {cc : ByteArray} {nL : Nat} {ret : Option FieldType} {d kc ks : Nat} {Q : Option Value → Shp → Mem → Prop} {pc pc' : Nat} {rest : List Value} {S : Shp} {I : Mem} {x0 x1 x2 x3 x4 x5 : Option Value} {r : List (Option Value)} {v : Nat} (hd : decode cc pc = .ok (.aload 6, 2)) (hp : pc + 2 = pc') (k : PW G own nm cc nL ret d kc ks Q pc' (x0 :: x1 :: x2 :: x3 :: x4 :: x5 :: some (.ref v) :: r) (.ref v :: rest) S I) : PW G own nm cc nL ret d kc ks Q pc (x0 :: x1 :: x2 :: x3 :: x4 :: x5 :: some (.ref v) :: r) rest S I := by
  subst hp
  intro p e R s m args below meth c H locs cells slots arr hC
  exact lv_aload hC.1 hC.2.1 hd (hC.2.2.2.2.2.2.2.2.2.2.2.1.2.2 6 (.ref v) rfl) (k p e R s m args below meth c H locs cells slots arr hC)
theorem P_lload6 {G : GX} {own nm : String} {cc : ByteArray} {nL : Nat} {ret : Option FieldType} {d kc ks : Nat} {Q : Option Value → Shp → Mem → Prop} {pc pc' : Nat} {rest : List Value} {S : Shp} {I : Mem} {x0 x1 x2 x3 x4 x5 : Option Value} {r : List (Option Value)} {v : Int64} (hd : decode cc pc = .ok (.lload 6, 2)) (hp : pc + 2 = pc') (k : PW G own nm cc nL ret d kc ks Q pc' (x0 :: x1 :: x2 :: x3 :: x4 :: x5 :: some (.long v) :: r) (.long v :: rest) S I) : PW G own nm cc nL ret d kc ks Q pc (x0 :: x1 :: x2 :: x3 :: x4 :: x5 :: some (.long v) :: r) rest S I := by
  subst hp
  intro p e R s m args below meth c H locs cells slots arr hC
  exact lv_lload hC.1 hC.2.1 hd (hC.2.2.2.2.2.2.2.2.2.2.2.1.2.2 6 (.long v) rfl) (k p e R s m args below meth c H locs cells slots arr hC)
theorem P_istore6 {G : GX} {own nm : String} {cc : ByteArray} {nL : Nat} {ret : Option FieldType} {d kc ks : Nat} {Q : Option Value → Shp → Mem → Prop} {pc pc' : Nat} {rest : List Value} {S : Shp} {I : Mem} {x0 x1 x2 x3 x4 x5 : Option Value} {r : List (Option Value)} {o : Option Value} {v : Int32} (hd : decode cc pc = .ok (.istore 6, 2)) (hp : pc + 2 = pc') (hn : 6 < nL) (h5 : lc1 x5 = true) (k : PW G own nm cc nL ret d kc ks Q pc' (x0 :: x1 :: x2 :: x3 :: x4 :: x5 :: some (.int v) :: r) rest S I) : PW G own nm cc nL ret d kc ks Q pc (x0 :: x1 :: x2 :: x3 :: x4 :: x5 :: o :: r) (.int v :: rest) S I := by
  subst hp
  intro p e R s m args below meth c H locs cells slots arr hC
  obtain ⟨hx, hb, c1, c2, c3, c4, c5, c6, c7, c8, c9, hl, c10⟩ := hC
  obtain ⟨arr', e1, e2⟩ := lh_store (i := 6) (v := .int v) hl hn (by simp) rfl (fun j w hj hw => by
    have : j = 5 := by omega
    subst this
    have e1 : x5 = some w := Option.some.inj hw
    rw [e1] at h5
    simpa [lc1] using h5)
  have e2 : lh G arr' nL (x0 :: x1 :: x2 :: x3 :: x4 :: x5 :: some (.int v) :: r) := e2
  have kk := k p e R s m args below meth c H locs cells slots arr' ⟨hx, hb, c1, c2, c3, c4, c5, c6, c7, c8, c9, e2, c10⟩
  intro T hT X
  obtain ⟨t, a, b⟩ := kk T hT X
  refine ⟨t, ?_, b⟩
  have e1 : storeLocals arr 6 (em G (.int v)) = some arr' := e1
  jvm_step X.here [X.here.top, hx, hb, hd, em]
  first | exact a | exact ⟨arr', e1, a⟩ | exact ⟨rfl, arr', e1, a⟩
theorem P_astore6 {G : GX} {own nm : String} {cc : ByteArray} {nL : Nat} {ret : Option FieldType} {d kc ks : Nat} {Q : Option Value → Shp → Mem → Prop} {pc pc' : Nat} {rest : List Value} {S : Shp} {I : Mem} {x0 x1 x2 x3 x4 x5 : Option Value} {r : List (Option Value)} {o : Option Value} {v : Nat} (hd : decode cc pc = .ok (.astore 6, 2)) (hp : pc + 2 = pc') (hn : 6 < nL) (h5 : lc1 x5 = true) (k : PW G own nm cc nL ret d kc ks Q pc' (x0 :: x1 :: x2 :: x3 :: x4 :: x5 :: some (.ref v) :: r) rest S I) : PW G own nm cc nL ret d kc ks Q pc (x0 :: x1 :: x2 :: x3 :: x4 :: x5 :: o :: r) (.ref v :: rest) S I := by
  subst hp
  intro p e R s m args below meth c H locs cells slots arr hC
  obtain ⟨hx, hb, c1, c2, c3, c4, c5, c6, c7, c8, c9, hl, c10⟩ := hC
  obtain ⟨arr', e1, e2⟩ := lh_store (i := 6) (v := .ref v) hl hn (by simp) rfl (fun j w hj hw => by
    have : j = 5 := by omega
    subst this
    have e1 : x5 = some w := Option.some.inj hw
    rw [e1] at h5
    simpa [lc1] using h5)
  have e2 : lh G arr' nL (x0 :: x1 :: x2 :: x3 :: x4 :: x5 :: some (.ref v) :: r) := e2
  have kk := k p e R s m args below meth c H locs cells slots arr' ⟨hx, hb, c1, c2, c3, c4, c5, c6, c7, c8, c9, e2, c10⟩
  intro T hT X
  obtain ⟨t, a, b⟩ := kk T hT X
  refine ⟨t, ?_, b⟩
  have e1 : storeLocals arr 6 (em G (.ref v)) = some arr' := e1
  jvm_step X.here [X.here.top, hx, hb, hd, em]
  first | exact a | exact ⟨arr', e1, a⟩ | exact ⟨rfl, arr', e1, a⟩
theorem P_iinc6 {G : GX} {own nm : String} {cc : ByteArray} {nL : Nat} {ret : Option FieldType} {d kc ks : Nat} {Q : Option Value → Shp → Mem → Prop} {pc pc' : Nat} {rest : List Value} {S : Shp} {I : Mem} {x0 x1 x2 x3 x4 x5 : Option Value} {r : List (Option Value)} {x v : Int32} {n : Int} (hd : decode cc pc = .ok (.iinc 6 n, 3)) (hp : pc + 3 = pc') (hv : x + Int32.ofInt n = v) (hn : 6 < nL) (h5 : lc1 x5 = true) (k : PW G own nm cc nL ret d kc ks Q pc' (x0 :: x1 :: x2 :: x3 :: x4 :: x5 :: some (.int v) :: r) rest S I) : PW G own nm cc nL ret d kc ks Q pc (x0 :: x1 :: x2 :: x3 :: x4 :: x5 :: some (.int x) :: r) rest S I := by
  subst hp
  intro p e R s m args below meth c H locs cells slots arr hC
  obtain ⟨hx, hb, c1, c2, c3, c4, c5, c6, c7, c8, c9, hl, c10⟩ := hC
  obtain ⟨arr', e1, e2⟩ := lh_store (i := 6) (v := .int v) hl hn (by simp) rfl (fun j w hj hw => by
    have : j = 5 := by omega
    subst this
    have e1 : x5 = some w := Option.some.inj hw
    rw [e1] at h5
    simpa [lc1] using h5)
  have e2 : lh G arr' nL (x0 :: x1 :: x2 :: x3 :: x4 :: x5 :: some (.int v) :: r) := e2
  have hi : arr[6]? = some (.val (.int x)) := hl.2.2 6 (.int x) rfl
  have kk := k p e R s m args below meth c H locs cells slots arr' ⟨hx, hb, c1, c2, c3, c4, c5, c6, c7, c8, c9, e2, c10⟩
  intro T hT X
  obtain ⟨t, a, b⟩ := kk T hT X
  refine ⟨t, ?_, b⟩
  have e1 : storeLocals arr 6 (.int v) = some arr' := e1
  rw [← hv] at e1
  jvm_step X.here [X.here.top, hx, hb, hd, hi, e1]
  exact a
theorem P_lstore6 {G : GX} {own nm : String} {cc : ByteArray} {nL : Nat} {ret : Option FieldType} {d kc ks : Nat} {Q : Option Value → Shp → Mem → Prop} {pc pc' : Nat} {rest : List Value} {S : Shp} {I : Mem} {x0 x1 x2 x3 x4 x5 : Option Value} {r : List (Option Value)} {o o2 : Option Value} {v : Int64} (hd : decode cc pc = .ok (.lstore 6, 2)) (hp : pc + 2 = pc') (hn : 6 + 1 < nL) (h5 : lc1 x5 = true) (k : PW G own nm cc nL ret d kc ks Q pc' (x0 :: x1 :: x2 :: x3 :: x4 :: x5 :: some (.long v) :: none :: r) rest S I) : PW G own nm cc nL ret d kc ks Q pc (x0 :: x1 :: x2 :: x3 :: x4 :: x5 :: o :: o2 :: r) (.long v :: rest) S I := by
  subst hp
  intro p e R s m args below meth c H locs cells slots arr hC
  obtain ⟨hx, hb, c1, c2, c3, c4, c5, c6, c7, c8, c9, hl, c10⟩ := hC
  obtain ⟨arr', e1, e2⟩ := lh_storeL (i := 6) (x := v) hl hn (by simp) (fun j w hj hw => by
    have : j = 5 := by omega
    subst this
    have e1 : x5 = some w := Option.some.inj hw
    rw [e1] at h5
    simpa [lc1] using h5)
  have e2 : lh G arr' nL (x0 :: x1 :: x2 :: x3 :: x4 :: x5 :: some (.long v) :: none :: r) := e2
  have kk := k p e R s m args below meth c H locs cells slots arr' ⟨hx, hb, c1, c2, c3, c4, c5, c6, c7, c8, c9, e2, c10⟩
  intro T hT X
  obtain ⟨t, a, b⟩ := kk T hT X
  refine ⟨t, ?_, b⟩
  jvm_step X.here [X.here.top, hx, hb, hd, em]
  first | exact a | exact ⟨arr', e1, a⟩ | exact ⟨rfl, arr', e1, a⟩
theorem P_iload7 {G : GX} {own nm : String} {cc : ByteArray} {nL : Nat} {ret : Option FieldType} {d kc ks : Nat} {Q : Option Value → Shp → Mem → Prop} {pc pc' : Nat} {rest : List Value} {S : Shp} {I : Mem} {x0 x1 x2 x3 x4 x5 x6 : Option Value} {r : List (Option Value)} {v : Int32} (hd : decode cc pc = .ok (.iload 7, 2)) (hp : pc + 2 = pc') (k : PW G own nm cc nL ret d kc ks Q pc' (x0 :: x1 :: x2 :: x3 :: x4 :: x5 :: x6 :: some (.int v) :: r) (.int v :: rest) S I) : PW G own nm cc nL ret d kc ks Q pc (x0 :: x1 :: x2 :: x3 :: x4 :: x5 :: x6 :: some (.int v) :: r) rest S I := by
  subst hp
  intro p e R s m args below meth c H locs cells slots arr hC
  exact lv_iload hC.1 hC.2.1 hd (hC.2.2.2.2.2.2.2.2.2.2.2.1.2.2 7 (.int v) rfl) (k p e R s m args below meth c H locs cells slots arr hC)
theorem P_aload7 {G : GX} {own nm : String} {cc : ByteArray} {nL : Nat} {ret : Option FieldType} {d kc ks : Nat} {Q : Option Value → Shp → Mem → Prop} {pc pc' : Nat} {rest : List Value} {S : Shp} {I : Mem} {x0 x1 x2 x3 x4 x5 x6 : Option Value} {r : List (Option Value)} {v : Nat} (hd : decode cc pc = .ok (.aload 7, 2)) (hp : pc + 2 = pc') (k : PW G own nm cc nL ret d kc ks Q pc' (x0 :: x1 :: x2 :: x3 :: x4 :: x5 :: x6 :: some (.ref v) :: r) (.ref v :: rest) S I) : PW G own nm cc nL ret d kc ks Q pc (x0 :: x1 :: x2 :: x3 :: x4 :: x5 :: x6 :: some (.ref v) :: r) rest S I := by
  subst hp
  intro p e R s m args below meth c H locs cells slots arr hC
  exact lv_aload hC.1 hC.2.1 hd (hC.2.2.2.2.2.2.2.2.2.2.2.1.2.2 7 (.ref v) rfl) (k p e R s m args below meth c H locs cells slots arr hC)
theorem P_lload7 {G : GX} {own nm : String} {cc : ByteArray} {nL : Nat} {ret : Option FieldType} {d kc ks : Nat} {Q : Option Value → Shp → Mem → Prop} {pc pc' : Nat} {rest : List Value} {S : Shp} {I : Mem} {x0 x1 x2 x3 x4 x5 x6 : Option Value} {r : List (Option Value)} {v : Int64} (hd : decode cc pc = .ok (.lload 7, 2)) (hp : pc + 2 = pc') (k : PW G own nm cc nL ret d kc ks Q pc' (x0 :: x1 :: x2 :: x3 :: x4 :: x5 :: x6 :: some (.long v) :: r) (.long v :: rest) S I) : PW G own nm cc nL ret d kc ks Q pc (x0 :: x1 :: x2 :: x3 :: x4 :: x5 :: x6 :: some (.long v) :: r) rest S I := by
  subst hp
  intro p e R s m args below meth c H locs cells slots arr hC
  exact lv_lload hC.1 hC.2.1 hd (hC.2.2.2.2.2.2.2.2.2.2.2.1.2.2 7 (.long v) rfl) (k p e R s m args below meth c H locs cells slots arr hC)
theorem P_istore7 {G : GX} {own nm : String} {cc : ByteArray} {nL : Nat} {ret : Option FieldType} {d kc ks : Nat} {Q : Option Value → Shp → Mem → Prop} {pc pc' : Nat} {rest : List Value} {S : Shp} {I : Mem} {x0 x1 x2 x3 x4 x5 x6 : Option Value} {r : List (Option Value)} {o : Option Value} {v : Int32} (hd : decode cc pc = .ok (.istore 7, 2)) (hp : pc + 2 = pc') (hn : 7 < nL) (h6 : lc1 x6 = true) (k : PW G own nm cc nL ret d kc ks Q pc' (x0 :: x1 :: x2 :: x3 :: x4 :: x5 :: x6 :: some (.int v) :: r) rest S I) : PW G own nm cc nL ret d kc ks Q pc (x0 :: x1 :: x2 :: x3 :: x4 :: x5 :: x6 :: o :: r) (.int v :: rest) S I := by
  subst hp
  intro p e R s m args below meth c H locs cells slots arr hC
  obtain ⟨hx, hb, c1, c2, c3, c4, c5, c6, c7, c8, c9, hl, c10⟩ := hC
  obtain ⟨arr', e1, e2⟩ := lh_store (i := 7) (v := .int v) hl hn (by simp) rfl (fun j w hj hw => by
    have : j = 6 := by omega
    subst this
    have e1 : x6 = some w := Option.some.inj hw
    rw [e1] at h6
    simpa [lc1] using h6)
  have e2 : lh G arr' nL (x0 :: x1 :: x2 :: x3 :: x4 :: x5 :: x6 :: some (.int v) :: r) := e2
  have kk := k p e R s m args below meth c H locs cells slots arr' ⟨hx, hb, c1, c2, c3, c4, c5, c6, c7, c8, c9, e2, c10⟩
  intro T hT X
  obtain ⟨t, a, b⟩ := kk T hT X
  refine ⟨t, ?_, b⟩
  have e1 : storeLocals arr 7 (em G (.int v)) = some arr' := e1
  jvm_step X.here [X.here.top, hx, hb, hd, em]
  first | exact a | exact ⟨arr', e1, a⟩ | exact ⟨rfl, arr', e1, a⟩
theorem P_astore7 {G : GX} {own nm : String} {cc : ByteArray} {nL : Nat} {ret : Option FieldType} {d kc ks : Nat} {Q : Option Value → Shp → Mem → Prop} {pc pc' : Nat} {rest : List Value} {S : Shp} {I : Mem} {x0 x1 x2 x3 x4 x5 x6 : Option Value} {r : List (Option Value)} {o : Option Value} {v : Nat} (hd : decode cc pc = .ok (.astore 7, 2)) (hp : pc + 2 = pc') (hn : 7 < nL) (h6 : lc1 x6 = true) (k : PW G own nm cc nL ret d kc ks Q pc' (x0 :: x1 :: x2 :: x3 :: x4 :: x5 :: x6 :: some (.ref v) :: r) rest S I) : PW G own nm cc nL ret d kc ks Q pc (x0 :: x1 :: x2 :: x3 :: x4 :: x5 :: x6 :: o :: r) (.ref v :: rest) S I := by
  subst hp
  intro p e R s m args below meth c H locs cells slots arr hC
  obtain ⟨hx, hb, c1, c2, c3, c4, c5, c6, c7, c8, c9, hl, c10⟩ := hC
  obtain ⟨arr', e1, e2⟩ := lh_store (i := 7) (v := .ref v) hl hn (by simp) rfl (fun j w hj hw => by
    have : j = 6 := by omega
    subst this
    have e1 : x6 = some w := Option.some.inj hw
    rw [e1] at h6
    simpa [lc1] using h6)
  have e2 : lh G arr' nL (x0 :: x1 :: x2 :: x3 :: x4 :: x5 :: x6 :: some (.ref v) :: r) := e2
  have kk := k p e R s m args below meth c H locs cells slots arr' ⟨hx, hb, c1, c2, c3, c4, c5, c6, c7, c8, c9, e2, c10⟩
  intro T hT X
  obtain ⟨t, a, b⟩ := kk T hT X
  refine ⟨t, ?_, b⟩
  have e1 : storeLocals arr 7 (em G (.ref v)) = some arr' := e1
  jvm_step X.here [X.here.top, hx, hb, hd, em]
  first | exact a | exact ⟨arr', e1, a⟩ | exact ⟨rfl, arr', e1, a⟩
theorem P_iinc7 {G : GX} {own nm : String} {cc : ByteArray} {nL : Nat} {ret : Option FieldType} {d kc ks : Nat} {Q : Option Value → Shp → Mem → Prop} {pc pc' : Nat} {rest : List Value} {S : Shp} {I : Mem} {x0 x1 x2 x3 x4 x5 x6 : Option Value} {r : List (Option Value)} {x v : Int32} {n : Int} (hd : decode cc pc = .ok (.iinc 7 n, 3)) (hp : pc + 3 = pc') (hv : x + Int32.ofInt n = v) (hn : 7 < nL) (h6 : lc1 x6 = true) (k : PW G own nm cc nL ret d kc ks Q pc' (x0 :: x1 :: x2 :: x3 :: x4 :: x5 :: x6 :: some (.int v) :: r) rest S I) : PW G own nm cc nL ret d kc ks Q pc (x0 :: x1 :: x2 :: x3 :: x4 :: x5 :: x6 :: some (.int x) :: r) rest S I := by
  subst hp
  intro p e R s m args below meth c H locs cells slots arr hC
  obtain ⟨hx, hb, c1, c2, c3, c4, c5, c6, c7, c8, c9, hl, c10⟩ := hC
  obtain ⟨arr', e1, e2⟩ := lh_store (i := 7) (v := .int v) hl hn (by simp) rfl (fun j w hj hw => by
    have : j = 6 := by omega
    subst this
    have e1 : x6 = some w := Option.some.inj hw
    rw [e1] at h6
    simpa [lc1] using h6)
  have e2 : lh G arr' nL (x0 :: x1 :: x2 :: x3 :: x4 :: x5 :: x6 :: some (.int v) :: r) := e2
  have hi : arr[7]? = some (.val (.int x)) := hl.2.2 7 (.int x) rfl
  have kk := k p e R s m args below meth c H locs cells slots arr' ⟨hx, hb, c1, c2, c3, c4, c5, c6, c7, c8, c9, e2, c10⟩
  intro T hT X
  obtain ⟨t, a, b⟩ := kk T hT X
  refine ⟨t, ?_, b⟩
  have e1 : storeLocals arr 7 (.int v) = some arr' := e1
  rw [← hv] at e1
  jvm_step X.here [X.here.top, hx, hb, hd, hi, e1]
  exact a
theorem P_lstore7 {G : GX} {own nm : String} {cc : ByteArray} {nL : Nat} {ret : Option FieldType} {d kc ks : Nat} {Q : Option Value → Shp → Mem → Prop} {pc pc' : Nat} {rest : List Value} {S : Shp} {I : Mem} {x0 x1 x2 x3 x4 x5 x6 : Option Value} {r : List (Option Value)} {o o2 : Option Value} {v : Int64} (hd : decode cc pc = .ok (.lstore 7, 2)) (hp : pc + 2 = pc') (hn : 7 + 1 < nL) (h6 : lc1 x6 = true) (k : PW G own nm cc nL ret d kc ks Q pc' (x0 :: x1 :: x2 :: x3 :: x4 :: x5 :: x6 :: some (.long v) :: none :: r) rest S I) : PW G own nm cc nL ret d kc ks Q pc (x0 :: x1 :: x2 :: x3 :: x4 :: x5 :: x6 :: o :: o2 :: r) (.long v :: rest) S I := by
  subst hp
  intro p e R s m args below meth c H locs cells slots arr hC
  obtain ⟨hx, hb, c1, c2, c3, c4, c5, c6, c7, c8, c9, hl, c10⟩ := hC
  obtain ⟨arr', e1, e2⟩ := lh_storeL (i := 7) (x := v) hl hn (by simp) (fun j w hj hw => by
    have : j = 6 := by omega
    subst this
    have e1 : x6 = some w := Option.some.inj hw
    rw [e1] at h6
    simpa [lc1] using h6)
  have e2 : lh G arr' nL (x0 :: x1 :: x2 :: x3 :: x4 :: x5 :: x6 :: some (.long v) :: none :: r) := e2
  have kk := k p e R s m args below meth c H locs cells slots arr' ⟨hx, hb, c1, c2, c3, c4, c5, c6, c7, c8, c9, e2, c10⟩
  intro T hT X
  obtain ⟨t, a, b⟩ := kk T hT X
  refine ⟨t, ?_, b⟩
  jvm_step X.here [X.here.top, hx, hb, hd, em]
  first | exact a | exact ⟨arr', e1, a⟩ | exact ⟨rfl, arr', e1, a⟩
theorem P_iload8 {G : GX} {own nm : String} {cc : ByteArray} {nL : Nat} {ret : Option FieldType} {d kc ks : Nat} {Q : Option Value → Shp → Mem → Prop} {pc pc' : Nat} {rest : List Value} {S : Shp} {I : Mem} {x0 x1 x2 x3 x4 x5 x6 x7 : Option Value} {r : List (Option Value)} {v : Int32} (hd : decode cc pc = .ok (.iload 8, 2)) (hp : pc + 2 = pc') (k : PW G own nm cc nL ret d kc ks Q pc' (x0 :: x1 :: x2 :: x3 :: x4 :: x5 :: x6 :: x7 :: some (.int v) :: r) (.int v :: rest) S I) : PW G own nm cc nL ret d kc ks Q pc (x0 :: x1 :: x2 :: x3 :: x4 :: x5 :: x6 :: x7 :: some (.int v) :: r) rest S I := by
  subst hp
  intro p e R s m args below meth c H locs cells slots arr hC
  exact lv_iload hC.1 hC.2.1 hd (hC.2.2.2.2.2.2.2.2.2.2.2.1.2.2 8 (.int v) rfl) (k p e R s m args below meth c H locs cells slots arr hC)
theorem P_aload8 {G : GX} {own nm : String} {cc : ByteArray} {nL : Nat} {ret : Option FieldType} {d kc ks : Nat} {Q : Option Value → Shp → Mem → Prop} {pc pc' : Nat} {rest : List Value} {S : Shp} {I : Mem} {x0 x1 x2 x3 x4 x5 x6 x7 : Option Value} {r : List (Option Value)} {v : Nat} (hd : decode cc pc = .ok (.aload 8, 2)) (hp : pc + 2 = pc') (k : PW G own nm cc nL ret d kc ks Q pc' (x0 :: x1 :: x2 :: x3 :: x4 :: x5 :: x6 :: x7 :: some (.ref v) :: r) (.ref v :: rest) S I) : PW G own nm cc nL ret d kc ks Q pc (x0 :: x1 :: x2 :: x3 :: x4 :: x5 :: x6 :: x7 :: some (.ref v) :: r) rest S I := by
  subst hp
  intro p e R s m args below meth c H locs cells slots arr hC
  exact lv_aload hC.1 hC.2.1 hd (hC.2.2.2.2.2.2.2.2.2.2.2.1.2.2 8 (.ref v) rfl) (k p e R s m args below meth c H locs cells slots arr hC)
theorem P_lload8 {G : GX} {own nm : String} {cc : ByteArray} {nL : Nat} {ret : Option FieldType} {d kc ks : Nat} {Q : Option Value → Shp → Mem → Prop} {pc pc' : Nat} {rest : List Value} {S : Shp} {I : Mem} {x0 x1 x2 x3 x4 x5 x6 x7 : Option Value} {r : List (Option Value)} {v : Int64} (hd : decode cc pc = .ok (.lload 8, 2)) (hp : pc + 2 = pc') (k : PW G own nm cc nL ret d kc ks Q pc' (x0 :: x1 :: x2 :: x3 :: x4 :: x5 :: x6 :: x7 :: some (.long v) :: r) (.long v :: rest) S I) : PW G own nm cc nL ret d kc ks Q pc (x0 :: x1 :: x2 :: x3 :: x4 :: x5 :: x6 :: x7 :: some (.long v) :: r) rest S I := by
  subst hp
  intro p e R s m args below meth c H locs cells slots arr hC
  exact lv_lload hC.1 hC.2.1 hd (hC.2.2.2.2.2.2.2.2.2.2.2.1.2.2 8 (.long v) rfl) (k p e R s m args below meth c H locs cells slots arr hC)
theorem P_istore8 {G : GX} {own nm : String} {cc : ByteArray} {nL : Nat} {ret : Option FieldType} {d kc ks : Nat} {Q : Option Value → Shp → Mem → Prop} {pc pc' : Nat} {rest : List Value} {S : Shp} {I : Mem} {x0 x1 x2 x3 x4 x5 x6 x7 : Option Value} {r : List (Option Value)} {o : Option Value} {v : Int32} (hd : decode cc pc = .ok (.istore 8, 2)) (hp : pc + 2 = pc') (hn : 8 < nL) (h7 : lc1 x7 = true) (k : PW G own nm cc nL ret d kc ks Q pc' (x0 :: x1 :: x2 :: x3 :: x4 :: x5 :: x6 :: x7 :: some (.int v) :: r) rest S I) : PW G own nm cc nL ret d kc ks Q pc (x0 :: x1 :: x2 :: x3 :: x4 :: x5 :: x6 :: x7 :: o :: r) (.int v :: rest) S I := by
  subst hp
  intro p e R s m args below meth c H locs cells slots arr hC
  obtain ⟨hx, hb, c1, c2, c3, c4, c5, c6, c7, c8, c9, hl, c10⟩ := hC
  obtain ⟨arr', e1, e2⟩ := lh_store (i := 8) (v := .int v) hl hn (by simp) rfl (fun j w hj hw => by
    have : j = 7 := by omega
    subst this
    have e1 : x7 = some w := Option.some.inj hw
    rw [e1] at h7
    simpa [lc1] using h7)
  have e2 : lh G arr' nL (x0 :: x1 :: x2 :: x3 :: x4 :: x5 :: x6 :: x7 :: some (.int v) :: r) := e2
  have kk := k p e R s m args below meth c H locs cells slots arr' ⟨hx, hb, c1, c2, c3, c4, c5, c6, c7, c8, c9, e2, c10⟩
  intro T hT X
  obtain ⟨t, a, b⟩ := kk T hT X
  refine ⟨t, ?_, b⟩
  have e1 : storeLocals arr 8 (em G (.int v)) = some arr' := e1
  jvm_step X.here [X.here.top, hx, hb, hd, em]
  first | exact a | exact ⟨arr', e1, a⟩ | exact ⟨rfl, arr', e1, a⟩
theorem P_astore8 {G : GX} {own nm : String} {cc : ByteArray} {nL : Nat} {ret : Option FieldType} {d kc ks : Nat} {Q : Option Value → Shp → Mem → Prop} {pc pc' : Nat} {rest : List Value} {S : Shp} {I : Mem} {x0 x1 x2 x3 x4 x5 x6 x7 : Option Value} {r : List (Option Value)} {o : Option Value} {v : Nat} (hd : decode cc pc = .ok (.astore 8, 2)) (hp : pc + 2 = pc') (hn : 8 < nL) (h7 : lc1 x7 = true) (k : PW G own nm cc nL ret d kc ks Q pc' (x0 :: x1 :: x2 :: x3 :: x4 :: x5 :: x6 :: x7 :: some (.ref v) :: r) rest S I) : PW G own nm cc nL ret d kc ks Q pc (x0 :: x1 :: x2 :: x3 :: x4 :: x5 :: x6 :: x7 :: o :: r) (.ref v :: rest) S I := by
  subst hp
  intro p e R s m args below meth c H locs cells slots arr hC
  obtain ⟨hx, hb, c1, c2, c3, c4, c5, c6, c7, c8, c9, hl, c10⟩ := hC
  obtain ⟨arr', e1, e2⟩ := lh_store (i := 8) (v := .ref v) hl hn (by simp) rfl (fun j w hj hw => by
    have : j = 7 := by omega
    subst this
    have e1 : x7 = some w := Option.some.inj hw
    rw [e1] at h7
    simpa [lc1] using h7)
  have e2 : lh G arr' nL (x0 :: x1 :: x2 :: x3 :: x4 :: x5 :: x6 :: x7 :: some (.ref v) :: r) := e2
  have kk := k p e R s m args below meth c H locs cells slots arr' ⟨hx, hb, c1, c2, c3, c4, c5, c6, c7, c8, c9, e2, c10⟩
  intro T hT X
  obtain ⟨t, a, b⟩ := kk T hT X
  refine ⟨t, ?_, b⟩
  have e1 : storeLocals arr 8 (em G (.ref v)) = some arr' := e1
  jvm_step X.here [X.here.top, hx, hb, hd, em]
  first | exact a | exact ⟨arr', e1, a⟩ | exact ⟨rfl, arr', e1, a⟩
theorem P_iinc8 {G : GX} {own nm : String} {cc : ByteArray} {nL : Nat} {ret : Option FieldType} {d kc ks : Nat} {Q : Option Value → Shp → Mem → Prop} {pc pc' : Nat} {rest : List Value} {S : Shp} {I : Mem} {x0 x1 x2 x3 x4 x5 x6 x7 : Option Value} {r : List (Option Value)} {x v : Int32} {n : Int} (hd : decode cc pc = .ok (.iinc 8 n, 3)) (hp : pc + 3 = pc') (hv : x + Int32.ofInt n = v) (hn : 8 < nL) (h7 : lc1 x7 = true) (k : PW G own nm cc nL ret d kc ks Q pc' (x0 :: x1 :: x2 :: x3 :: x4 :: x5 :: x6 :: x7 :: some (.int v) :: r) rest S I) : PW G own nm cc nL ret d kc ks Q pc (x0 :: x1 :: x2 :: x3 :: x4 :: x5 :: x6 :: x7 :: some (.int x) :: r) rest S I := by
  subst hp
  intro p e R s m args below meth c H locs cells slots arr hC
  obtain ⟨hx, hb, c1, c2, c3, c4, c5, c6, c7, c8, c9, hl, c10⟩ := hC
  obtain ⟨arr', e1, e2⟩ := lh_store (i := 8) (v := .int v) hl hn (by simp) rfl (fun j w hj hw => by
    have : j = 7 := by omega
    subst this
    have e1 : x7 = some w := Option.some.inj hw
    rw [e1] at h7
    simpa [lc1] using h7)
  have e2 : lh G arr' nL (x0 :: x1 :: x2 :: x3 :: x4 :: x5 :: x6 :: x7 :: some (.int v) :: r) := e2
  have hi : arr[8]? = some (.val (.int x)) := hl.2.2 8 (.int x) rfl
  have kk := k p e R s m args below meth c H locs cells slots arr' ⟨hx, hb, c1, c2, c3, c4, c5, c6, c7, c8, c9, e2, c10⟩
  intro T hT X
  obtain ⟨t, a, b⟩ := kk T hT X
  refine ⟨t, ?_, b⟩
  have e1 : storeLocals arr 8 (.int v) = some arr' := e1
  rw [← hv] at e1
  jvm_step X.here [X.here.top, hx, hb, hd, hi, e1]
  exact a
theorem P_lstore8 {G : GX} {own nm : String} {cc : ByteArray} {nL : Nat} {ret : Option FieldType} {d kc ks : Nat} {Q : Option Value → Shp → Mem → Prop} {pc pc' : Nat} {rest : List Value} {S : Shp} {I : Mem} {x0 x1 x2 x3 x4 x5 x6 x7 : Option Value} {r : List (Option Value)} {o o2 : Option Value} {v : Int64} (hd : decode cc pc = .ok (.lstore 8, 2)) (hp : pc + 2 = pc') (hn : 8 + 1 < nL) (h7 : lc1 x7 = true) (k : PW G own nm cc nL ret d kc ks Q pc' (x0 :: x1 :: x2 :: x3 :: x4 :: x5 :: x6 :: x7 :: some (.long v) :: none :: r) rest S I) : PW G own nm cc nL ret d kc ks Q pc (x0 :: x1 :: x2 :: x3 :: x4 :: x5 :: x6 :: x7 :: o :: o2 :: r) (.long v :: rest) S I := by
  subst hp
  intro p e R s m args below meth c H locs cells slots arr hC
  obtain ⟨hx, hb, c1, c2, c3, c4, c5, c6, c7, c8, c9, hl, c10⟩ := hC
  obtain ⟨arr', e1, e2⟩ := lh_storeL (i := 8) (x := v) hl hn (by simp) (fun j w hj hw => by
    have : j = 7 := by omega
    subst this
    have e1 : x7 = some w := Option.some.inj hw
    rw [e1] at h7
    simpa [lc1] using h7)
  have e2 : lh G arr' nL (x0 :: x1 :: x2 :: x3 :: x4 :: x5 :: x6 :: x7 :: some (.long v) :: none :: r) := e2
  have kk := k p e R s m args below meth c H locs cells slots arr' ⟨hx, hb, c1, c2, c3, c4, c5, c6, c7, c8, c9, e2, c10⟩
  intro T hT X
  obtain ⟨t, a, b⟩ := kk T hT X
  refine ⟨t, ?_, b⟩
  jvm_step X.here [X.here.top, hx, hb, hd, em]
  first | exact a | exact ⟨arr', e1, a⟩ | exact ⟨rfl, arr', e1, a⟩
theorem P_iload9 {G : GX} {own nm : String} {cc : ByteArray} {nL : Nat} {ret : Option FieldType} {d kc ks : Nat} {Q : Option Value → Shp → Mem → Prop} {pc pc' : Nat} {rest : List Value} {S : Shp} {I : Mem} {x0 x1 x2 x3 x4 x5 x6 x7 x8 : Option Value} {r : List (Option Value)} {v : Int32} (hd : decode cc pc = .ok (.iload 9, 2)) (hp : pc + 2 = pc') (k : PW G own nm cc nL ret d kc ks Q pc' (x0 :: x1 :: x2 :: x3 :: x4 :: x5 :: x6 :: x7 :: x8 :: some (.int v) :: r) (.int v :: rest) S I) : PW G own nm cc nL ret d kc ks Q pc (x0 :: x1 :: x2 :: x3 :: x4 :: x5 :: x6 :: x7 :: x8 :: some (.int v) :: r) rest S I := by
  subst hp
  intro p e R s m args below meth c H locs cells slots arr hC
  exact lv_iload hC.1 hC.2.1 hd (hC.2.2.2.2.2.2.2.2.2.2.2.1.2.2 9 (.int v) rfl) (k p e R s m args below meth c H locs cells slots arr hC)
theorem P_aload9 {G : GX} {own nm : String} {cc : ByteArray} {nL : Nat} {ret : Option FieldType} {d kc ks : Nat} {Q : Option Value → Shp → Mem → Prop} {pc pc' : Nat} {rest : List Value} {S : Shp} {I : Mem} {x0 x1 x2 x3 x4 x5 x6 x7 x8 : Option Value} {r : List (Option Value)} {v : Nat} (hd : decode cc pc = .ok (.aload 9, 2)) (hp : pc + 2 = pc') (k : PW G own nm cc nL ret d kc ks Q pc' (x0 :: x1 :: x2 :: x3 :: x4 :: x5 :: x6 :: x7 :: x8 :: some (.ref v) :: r) (.ref v :: rest) S I) : PW G own nm cc nL ret d kc ks Q pc (x0 :: x1 :: x2 :: x3 :: x4 :: x5 :: x6 :: x7 :: x8 :: some (.ref v) :: r) rest S I := by
  subst hp
  intro p e R s m args below meth c H locs cells slots arr hC
  exact lv_aload hC.1 hC.2.1 hd (hC.2.2.2.2.2.2.2.2.2.2.2.1.2.2 9 (.ref v) rfl) (k p e R s m args below meth c H locs cells slots arr hC)
theorem P_lload9 {G : GX} {own nm : String} {cc : ByteArray} {nL : Nat} {ret : Option FieldType} {d kc ks : Nat} {Q : Option Value → Shp → Mem → Prop} {pc pc' : Nat} {rest : List Value} {S : Shp} {I : Mem} {x0 x1 x2 x3 x4 x5 x6 x7 x8 : Option Value} {r : List (Option Value)} {v : Int64} (hd : decode cc pc = .ok (.lload 9, 2)) (hp : pc + 2 = pc') (k : PW G own nm cc nL ret d kc ks Q pc' (x0 :: x1 :: x2 :: x3 :: x4 :: x5 :: x6 :: x7 :: x8 :: some (.long v) :: r) (.long v :: rest) S I) : PW G own nm cc nL ret d kc ks Q pc (x0 :: x1 :: x2 :: x3 :: x4 :: x5 :: x6 :: x7 :: x8 :: some (.long v) :: r) rest S I := by
  subst hp
  intro p e R s m args below meth c H locs cells slots arr hC
  exact lv_lload hC.1 hC.2.1 hd (hC.2.2.2.2.2.2.2.2.2.2.2.1.2.2 9 (.long v) rfl) (k p e R s m args below meth c H locs cells slots arr hC)
theorem P_istore9 {G : GX} {own nm : String} {cc : ByteArray} {nL : Nat} {ret : Option FieldType} {d kc ks : Nat} {Q : Option Value → Shp → Mem → Prop} {pc pc' : Nat} {rest : List Value} {S : Shp} {I : Mem} {x0 x1 x2 x3 x4 x5 x6 x7 x8 : Option Value} {r : List (Option Value)} {o : Option Value} {v : Int32} (hd : decode cc pc = .ok (.istore 9, 2)) (hp : pc + 2 = pc') (hn : 9 < nL) (h8 : lc1 x8 = true) (k : PW G own nm cc nL ret d kc ks Q pc' (x0 :: x1 :: x2 :: x3 :: x4 :: x5 :: x6 :: x7 :: x8 :: some (.int v) :: r) rest S I) : PW G own nm cc nL ret d kc ks Q pc (x0 :: x1 :: x2 :: x3 :: x4 :: x5 :: x6 :: x7 :: x8 :: o :: r) (.int v :: rest) S I := by
  subst hp
  intro p e R s m args below meth c H locs cells slots arr hC
  obtain ⟨hx, hb, c1, c2, c3, c4, c5, c6, c7, c8, c9, hl, c10⟩ := hC
  obtain ⟨arr', e1, e2⟩ := lh_store (i := 9) (v := .int v) hl hn (by simp) rfl (fun j w hj hw => by
    have : j = 8 := by omega
    subst this
    have e1 : x8 = some w := Option.some.inj hw
    rw [e1] at h8
    simpa [lc1] using h8)
  have e2 : lh G arr' nL (x0 :: x1 :: x2 :: x3 :: x4 :: x5 :: x6 :: x7 :: x8 :: some (.int v) :: r) := e2
  have kk := k p e R s m args below meth c H locs cells slots arr' ⟨hx, hb, c1, c2, c3, c4, c5, c6, c7, c8, c9, e2, c10⟩
  intro T hT X
  obtain ⟨t, a, b⟩ := kk T hT X
  refine ⟨t, ?_, b⟩
  have e1 : storeLocals arr 9 (em G (.int v)) = some arr' := e1
  jvm_step X.here [X.here.top, hx, hb, hd, em]
  first | exact a | exact ⟨arr', e1, a⟩ | exact ⟨rfl, arr', e1, a⟩
theorem P_astore9 {G : GX} {own nm : String} {cc : ByteArray} {nL : Nat} {ret : Option FieldType} {d kc ks : Nat} {Q : Option Value → Shp → Mem → Prop} {pc pc' : Nat} {rest : List Value} {S : Shp} {I : Mem} {x0 x1 x2 x3 x4 x5 x6 x7 x8 : Option Value} {r : List (Option Value)} {o : Option Value} {v : Nat} (hd : decode cc pc = .ok (.astore 9, 2)) (hp : pc + 2 = pc') (hn : 9 < nL) (h8 : lc1 x8 = true) (k : PW G own nm cc nL ret d kc ks Q pc' (x0 :: x1 :: x2 :: x3 :: x4 :: x5 :: x6 :: x7 :: x8 :: some (.ref v) :: r) rest S I) : PW G own nm cc nL ret d kc ks Q pc (x0 :: x1 :: x2 :: x3 :: x4 :: x5 :: x6 :: x7 :: x8 :: o :: r) (.ref v :: rest) S I := by
  subst hp
  intro p e R s m args below meth c H locs cells slots arr hC
  obtain ⟨hx, hb, c1, c2, c3, c4, c5, c6, c7, c8, c9, hl, c10⟩ := hC
  obtain ⟨arr', e1, e2⟩ := lh_store (i := 9) (v := .ref v) hl hn (by simp) rfl (fun j w hj hw => by
    have : j = 8 := by omega
    subst this
    have e1 : x8 = some w := Option.some.inj hw
    rw [e1] at h8
    simpa [lc1] using h8)
  have e2 : lh G arr' nL (x0 :: x1 :: x2 :: x3 :: x4 :: x5 :: x6 :: x7 :: x8 :: some (.ref v) :: r) := e2
  have kk := k p e R s m args below meth c H locs cells slots arr' ⟨hx, hb, c1, c2, c3, c4, c5, c6, c7, c8, c9, e2, c10⟩
  intro T hT X
  obtain ⟨t, a, b⟩ := kk T hT X
  refine ⟨t, ?_, b⟩
  have e1 : storeLocals arr 9 (em G (.ref v)) = some arr' := e1
  jvm_step X.here [X.here.top, hx, hb, hd, em]
  first | exact a | exact ⟨arr', e1, a⟩ | exact ⟨rfl, arr', e1, a⟩
theorem P_iinc9 {G : GX} {own nm : String} {cc : ByteArray} {nL : Nat} {ret : Option FieldType} {d kc ks : Nat} {Q : Option Value → Shp → Mem → Prop} {pc pc' : Nat} {rest : List Value} {S : Shp} {I : Mem} {x0 x1 x2 x3 x4 x5 x6 x7 x8 : Option Value} {r : List (Option Value)} {x v : Int32} {n : Int} (hd : decode cc pc = .ok (.iinc 9 n, 3)) (hp : pc + 3 = pc') (hv : x + Int32.ofInt n = v) (hn : 9 < nL) (h8 : lc1 x8 = true) (k : PW G own nm cc nL ret d kc ks Q pc' (x0 :: x1 :: x2 :: x3 :: x4 :: x5 :: x6 :: x7 :: x8 :: some (.int v) :: r) rest S I) : PW G own nm cc nL ret d kc ks Q pc (x0 :: x1 :: x2 :: x3 :: x4 :: x5 :: x6 :: x7 :: x8 :: some (.int x) :: r) rest S I := by
  subst hp
  intro p e R s m args below meth c H locs cells slots arr hC
  obtain ⟨hx, hb, c1, c2, c3, c4, c5, c6, c7, c8, c9, hl, c10⟩ := hC
  obtain ⟨arr', e1, e2⟩ := lh_store (i := 9) (v := .int v) hl hn (by simp) rfl (fun j w hj hw => by
    have : j = 8 := by omega
    subst this
    have e1 : x8 = some w := Option.some.inj hw
    rw [e1] at h8
    simpa [lc1] using h8)
  have e2 : lh G arr' nL (x0 :: x1 :: x2 :: x3 :: x4 :: x5 :: x6 :: x7 :: x8 :: some (.int v) :: r) := e2
  have hi : arr[9]? = some (.val (.int x)) := hl.2.2 9 (.int x) rfl
  have kk := k p e R s m args below meth c H locs cells slots arr' ⟨hx, hb, c1, c2, c3, c4, c5, c6, c7, c8, c9, e2, c10⟩
  intro T hT X
  obtain ⟨t, a, b⟩ := kk T hT X
  refine ⟨t, ?_, b⟩
  have e1 : storeLocals arr 9 (.int v) = some arr' := e1
  rw [← hv] at e1
  jvm_step X.here [X.here.top, hx, hb, hd, hi, e1]
  exact a
theorem P_lstore9 {G : GX} {own nm : String} {cc : ByteArray} {nL : Nat} {ret : Option FieldType} {d kc ks : Nat} {Q : Option Value → Shp → Mem → Prop} {pc pc' : Nat} {rest : List Value} {S : Shp} {I : Mem} {x0 x1 x2 x3 x4 x5 x6 x7 x8 : Option Value} {r : List (Option Value)} {o o2 : Option Value} {v : Int64} (hd : decode cc pc = .ok (.lstore 9, 2)) (hp : pc + 2 = pc') (hn : 9 + 1 < nL) (h8 : lc1 x8 = true) (k : PW G own nm cc nL ret d kc ks Q pc' (x0 :: x1 :: x2 :: x3 :: x4 :: x5 :: x6 :: x7 :: x8 :: some (.long v) :: none :: r) rest S I) : PW G own nm cc nL ret d kc ks Q pc (x0 :: x1 :: x2 :: x3 :: x4 :: x5 :: x6 :: x7 :: x8 :: o :: o2 :: r) (.long v :: rest) S I := by
  subst hp
  intro p e R s m args below meth c H locs cells slots arr hC
  obtain ⟨hx, hb, c1, c2, c3, c4, c5, c6, c7, c8, c9, hl, c10⟩ := hC
  obtain ⟨arr', e1, e2⟩ := lh_storeL (i := 9) (x := v) hl hn (by simp) (fun j w hj hw => by
    have : j = 8 := by omega
    subst this
    have e1 : x8 = some w := Option.some.inj hw
    rw [e1] at h8
    simpa [lc1] using h8)
  have e2 : lh G arr' nL (x0 :: x1 :: x2 :: x3 :: x4 :: x5 :: x6 :: x7 :: x8 :: some (.long v) :: none :: r) := e2
  have kk := k p e R s m args below meth c H locs cells slots arr' ⟨hx, hb, c1, c2, c3, c4, c5, c6, c7, c8, c9, e2, c10⟩
  intro T hT X
  obtain ⟨t, a, b⟩ := kk T hT X
  refine ⟨t, ?_, b⟩
  jvm_step X.here [X.here.top, hx, hb, hd, em]
  first | exact a | exact ⟨arr', e1, a⟩ | exact ⟨rfl, arr', e1, a⟩
theorem P_iload10 {G : GX} {own nm : String} {cc : ByteArray} {nL : Nat} {ret : Option FieldType} {d kc ks : Nat} {Q : Option Value → Shp → Mem → Prop} {pc pc' : Nat} {rest : List Value} {S : Shp} {I : Mem} {x0 x1 x2 x3 x4 x5 x6 x7 x8 x9 : Option Value} {r : List (Option Value)} {v : Int32} (hd : decode cc pc = .ok (.iload 10, 2)) (hp : pc + 2 = pc') (k : PW G own nm cc nL ret d kc ks Q pc' (x0 :: x1 :: x2 :: x3 :: x4 :: x5 :: x6 :: x7 :: x8 :: x9 :: some (.int v) :: r) (.int v :: rest) S I) : PW G own nm cc nL ret d kc ks Q pc (x0 :: x1 :: x2 :: x3 :: x4 :: x5 :: x6 :: x7 :: x8 :: x9 :: some (.int v) :: r) rest S I := by
  subst hp
  intro p e R s m args below meth c H locs cells slots arr hC
  exact lv_iload hC.1 hC.2.1 hd (hC.2.2.2.2.2.2.2.2.2.2.2.1.2.2 10 (.int v) rfl) (k p e R s m args below meth c H locs cells slots arr hC)
theorem P_aload10 {G : GX} {own nm : String} {cc : ByteArray} {nL : Nat} {ret : Option FieldType} {d kc ks : Nat} {Q : Option Value → Shp → Mem → Prop} {pc pc' : Nat} {rest : List Value} {S : Shp} {I : Mem} {x0 x1 x2 x3 x4 x5 x6 x7 x8 x9 : Option Value} {r : List (Option Value)} {v : Nat} (hd : decode cc pc = .ok (.aload 10, 2)) (hp : pc + 2 = pc') (k : PW G own nm cc nL ret d kc ks Q pc' (x0 :: x1 :: x2 :: x3 :: x4 :: x5 :: x6 :: x7 :: x8 :: x9 :: some (.ref v) :: r) (.ref v :: rest) S I) : PW G own nm cc nL ret d kc ks Q pc (x0 :: x1 :: x2 :: x3 :: x4 :: x5 :: x6 :: x7 :: x8 :: x9 :: some (.ref v) :: r) rest S I := by
  subst hp
  intro p e R s m args below meth c H locs cells slots arr hC
  exact lv_aload hC.1 hC.2.1 hd (hC.2.2.2.2.2.2.2.2.2.2.2.1.2.2 10 (.ref v) rfl) (k p e R s m args below meth c H locs cells slots arr hC)
theorem P_lload10 {G : GX} {own nm : String} {cc : ByteArray} {nL : Nat} {ret : Option FieldType} {d kc ks : Nat} {Q : Option Value → Shp → Mem → Prop} {pc pc' : Nat} {rest : List Value} {S : Shp} {I : Mem} {x0 x1 x2 x3 x4 x5 x6 x7 x8 x9 : Option Value} {r : List (Option Value)} {v : Int64} (hd : decode cc pc = .ok (.lload 10, 2)) (hp : pc + 2 = pc') (k : PW G own nm cc nL ret d kc ks Q pc' (x0 :: x1 :: x2 :: x3 :: x4 :: x5 :: x6 :: x7 :: x8 :: x9 :: some (.long v) :: r) (.long v :: rest) S I) : PW G own nm cc nL ret d kc ks Q pc (x0 :: x1 :: x2 :: x3 :: x4 :: x5 :: x6 :: x7 :: x8 :: x9 :: some (.long v) :: r) rest S I := by
  subst hp
  intro p e R s m args below meth c H locs cells slots arr hC
  exact lv_lload hC.1 hC.2.1 hd (hC.2.2.2.2.2.2.2.2.2.2.2.1.2.2 10 (.long v) rfl) (k p e R s m args below meth c H locs cells slots arr hC)
theorem P_istore10 {G : GX} {own nm : String} {cc : ByteArray} {nL : Nat} {ret : Option FieldType} {d kc ks : Nat} {Q : Option Value → Shp → Mem → Prop} {pc pc' : Nat} {rest : List Value} {S : Shp} {I : Mem} {x0 x1 x2 x3 x4 x5 x6 x7 x8 x9 : Option Value} {r : List (Option Value)} {o : Option Value} {v : Int32} (hd : decode cc pc = .ok (.istore 10, 2)) (hp : pc + 2 = pc') (hn : 10 < nL) (h9 : lc1 x9 = true) (k : PW G own nm cc nL ret d kc ks Q pc' (x0 :: x1 :: x2 :: x3 :: x4 :: x5 :: x6 :: x7 :: x8 :: x9 :: some (.int v) :: r) rest S I) : PW G own nm cc nL ret d kc ks Q pc (x0 :: x1 :: x2 :: x3 :: x4 :: x5 :: x6 :: x7 :: x8 :: x9 :: o :: r) (.int v :: rest) S I := by
  subst hp
  intro p e R s m args below meth c H locs cells slots arr hC
  obtain ⟨hx, hb, c1, c2, c3, c4, c5, c6, c7, c8, c9, hl, c10⟩ := hC
  obtain ⟨arr', e1, e2⟩ := lh_store (i := 10) (v := .int v) hl hn (by simp) rfl (fun j w hj hw => by
    have : j = 9 := by omega
    subst this
    have e1 : x9 = some w := Option.some.inj hw
    rw [e1] at h9
    simpa [lc1] using h9)
  have e2 : lh G arr' nL (x0 :: x1 :: x2 :: x3 :: x4 :: x5 :: x6 :: x7 :: x8 :: x9 :: some (.int v) :: r) := e2
  have kk := k p e R s m args below meth c H locs cells slots arr' ⟨hx, hb, c1, c2, c3, c4, c5, c6, c7, c8, c9, e2, c10⟩
  intro T hT X
  obtain ⟨t, a, b⟩ := kk T hT X
  refine ⟨t, ?_, b⟩
  have e1 : storeLocals arr 10 (em G (.int v)) = some arr' := e1
  jvm_step X.here [X.here.top, hx, hb, hd, em]
  first | exact a | exact ⟨arr', e1, a⟩ | exact ⟨rfl, arr', e1, a⟩
theorem P_astore10 {G : GX} {own nm : String} {cc : ByteArray} {nL : Nat} {ret : Option FieldType} {d kc ks : Nat} {Q : Option Value → Shp → Mem → Prop} {pc pc' : Nat} {rest : List Value} {S : Shp} {I : Mem} {x0 x1 x2 x3 x4 x5 x6 x7 x8 x9 : Option Value} {r : List (Option Value)} {o : Option Value} {v : Nat} (hd : decode cc pc = .ok (.astore 10, 2)) (hp : pc + 2 = pc') (hn : 10 < nL) (h9 : lc1 x9 = true) (k : PW G own nm cc nL ret d kc ks Q pc' (x0 :: x1 :: x2 :: x3 :: x4 :: x5 :: x6 :: x7 :: x8 :: x9 :: some (.ref v) :: r) rest S I) : PW G own nm cc nL ret d kc ks Q pc (x0 :: x1 :: x2 :: x3 :: x4 :: x5 :: x6 :: x7 :: x8 :: x9 :: o :: r) (.ref v :: rest) S I := by
  subst hp
  intro p e R s m args below meth c H locs cells slots arr hC
  obtain ⟨hx, hb, c1, c2, c3, c4, c5, c6, c7, c8, c9, hl, c10⟩ := hC
  obtain ⟨arr', e1, e2⟩ := lh_store (i := 10) (v := .ref v) hl hn (by simp) rfl (fun j w hj hw => by
    have : j = 9 := by omega
    subst this
    have e1 : x9 = some w := Option.some.inj hw
    rw [e1] at h9
    simpa [lc1] using h9)
  have e2 : lh G arr' nL (x0 :: x1 :: x2 :: x3 :: x4 :: x5 :: x6 :: x7 :: x8 :: x9 :: some (.ref v) :: r) := e2
  have kk := k p e R s m args below meth c H locs cells slots arr' ⟨hx, hb, c1, c2, c3, c4, c5, c6, c7, c8, c9, e2, c10⟩
  intro T hT X
  obtain ⟨t, a, b⟩ := kk T hT X
  refine ⟨t, ?_, b⟩
  have e1 : storeLocals arr 10 (em G (.ref v)) = some arr' := e1
  jvm_step X.here [X.here.top, hx, hb, hd, em]
  first | exact a | exact ⟨arr', e1, a⟩ | exact ⟨rfl, arr', e1, a⟩
theorem P_iinc10 {G : GX} {own nm : String} {cc : ByteArray} {nL : Nat} {ret : Option FieldType} {d kc ks : Nat} {Q : Option Value → Shp → Mem → Prop} {pc pc' : Nat} {rest : List Value} {S : Shp} {I : Mem} {x0 x1 x2 x3 x4 x5 x6 x7 x8 x9 : Option Value} {r : List (Option Value)} {x v : Int32} {n : Int} (hd : decode cc pc = .ok (.iinc 10 n, 3)) (hp : pc + 3 = pc') (hv : x + Int32.ofInt n = v) (hn : 10 < nL) (h9 : lc1 x9 = true) (k : PW G own nm cc nL ret d kc ks Q pc' (x0 :: x1 :: x2 :: x3 :: x4 :: x5 :: x6 :: x7 :: x8 :: x9 :: some (.int v) :: r) rest S I) : PW G own nm cc nL ret d kc ks Q pc (x0 :: x1 :: x2 :: x3 :: x4 :: x5 :: x6 :: x7 :: x8 :: x9 :: some (.int x) :: r) rest S I := by
  subst hp
  intro p e R s m args below meth c H locs cells slots arr hC
  obtain ⟨hx, hb, c1, c2, c3, c4, c5, c6, c7, c8, c9, hl, c10⟩ := hC
  obtain ⟨arr', e1, e2⟩ := lh_store (i := 10) (v := .int v) hl hn (by simp) rfl (fun j w hj hw => by
    have : j = 9 := by omega
    subst this
    have e1 : x9 = some w := Option.some.inj hw
    rw [e1] at h9
    simpa [lc1] using h9)
  have e2 : lh G arr' nL (x0 :: x1 :: x2 :: x3 :: x4 :: x5 :: x6 :: x7 :: x8 :: x9 :: some (.int v) :: r) := e2
  have hi : arr[10]? = some (.val (.int x)) := hl.2.2 10 (.int x) rfl
  have kk := k p e R s m args below meth c H locs cells slots arr' ⟨hx, hb, c1, c2, c3, c4, c5, c6, c7, c8, c9, e2, c10⟩
  intro T hT X
  obtain ⟨t, a, b⟩ := kk T hT X
  refine ⟨t, ?_, b⟩
  have e1 : storeLocals arr 10 (.int v) = some arr' := e1
  rw [← hv] at e1
  jvm_step X.here [X.here.top, hx, hb, hd, hi, e1]
  exact a
theorem P_lstore10 {G : GX} {own nm : String} {cc : ByteArray} {nL : Nat} {ret : Option FieldType} {d kc ks : Nat} {Q : Option Value → Shp → Mem → Prop} {pc pc' : Nat} {rest : List Value} {S : Shp} {I : Mem} {x0 x1 x2 x3 x4 x5 x6 x7 x8 x9 : Option Value} {r : List (Option Value)} {o o2 : Option Value} {v : Int64} (hd : decode cc pc = .ok (.lstore 10, 2)) (hp : pc + 2 = pc') (hn : 10 + 1 < nL) (h9 : lc1 x9 = true) (k : PW G own nm cc nL ret d kc ks Q pc' (x0 :: x1 :: x2 :: x3 :: x4 :: x5 :: x6 :: x7 :: x8 :: x9 :: some (.long v) :: none :: r) rest S I) : PW G own nm cc nL ret d kc ks Q pc (x0 :: x1 :: x2 :: x3 :: x4 :: x5 :: x6 :: x7 :: x8 :: x9 :: o :: o2 :: r) (.long v :: rest) S I := by
  subst hp
  intro p e R s m args below meth c H locs cells slots arr hC
  obtain ⟨hx, hb, c1, c2, c3, c4, c5, c6, c7, c8, c9, hl, c10⟩ := hC
  obtain ⟨arr', e1, e2⟩ := lh_storeL (i := 10) (x := v) hl hn (by simp) (fun j w hj hw => by
    have : j = 9 := by omega
    subst this
    have e1 : x9 = some w := Option.some.inj hw
    rw [e1] at h9
    simpa [lc1] using h9)
  have e2 : lh G arr' nL (x0 :: x1 :: x2 :: x3 :: x4 :: x5 :: x6 :: x7 :: x8 :: x9 :: some (.long v) :: none :: r) := e2
  have kk := k p e R s m args below meth c H locs cells slots arr' ⟨hx, hb, c1, c2, c3, c4, c5, c6, c7, c8, c9, e2, c10⟩
  intro T hT X
  obtain ⟨t, a, b⟩ := kk T hT X
  refine ⟨t, ?_, b⟩
  jvm_step X.here [X.here.top, hx, hb, hd, em]
  first | exact a | exact ⟨arr', e1, a⟩ | exact ⟨rfl, arr', e1, a⟩
theorem P_iload11 {G : GX} {own nm : String} {cc : ByteArray} {nL : Nat} {ret : Option FieldType} {d kc ks : Nat} {Q : Option Value → Shp → Mem → Prop} {pc pc' : Nat} {rest : List Value} {S : Shp} {I : Mem} {x0 x1 x2 x3 x4 x5 x6 x7 x8 x9 x10 : Option Value} {r : List (Option Value)} {v : Int32} (hd : decode cc pc = .ok (.iload 11, 2)) (hp : pc + 2 = pc') (k : PW G own nm cc nL ret d kc ks Q pc' (x0 :: x1 :: x2 :: x3 :: x4 :: x5 :: x6 :: x7 :: x8 :: x9 :: x10 :: some (.int v) :: r) (.int v :: rest) S I) : PW G own nm cc nL ret d kc ks Q pc (x0 :: x1 :: x2 :: x3 :: x4 :: x5 :: x6 :: x7 :: x8 :: x9 :: x10 :: some (.int v) :: r) rest S I := by
  subst hp
  intro p e R s m args below meth c H locs cells slots arr hC
  exact lv_iload hC.1 hC.2.1 hd (hC.2.2.2.2.2.2.2.2.2.2.2.1.2.2 11 (.int v) rfl) (k p e R s m args below meth c H locs cells slots arr hC)
theorem P_aload11 {G : GX} {own nm : String} {cc : ByteArray} {nL : Nat} {ret : Option FieldType} {d kc ks : Nat} {Q : Option Value → Shp → Mem → Prop} {pc pc' : Nat} {rest : List Value} {S : Shp} {I : Mem} {x0 x1 x2 x3 x4 x5 x6 x7 x8 x9 x10 : Option Value} {r : List (Option Value)} {v : Nat} (hd : decode cc pc = .ok (.aload 11, 2)) (hp : pc + 2 = pc') (k : PW G own nm cc nL ret d kc ks Q pc' (x0 :: x1 :: x2 :: x3 :: x4 :: x5 :: x6 :: x7 :: x8 :: x9 :: x10 :: some (.ref v) :: r) (.ref v :: rest) S I) : PW G own nm cc nL ret d kc ks Q pc (x0 :: x1 :: x2 :: x3 :: x4 :: x5 :: x6 :: x7 :: x8 :: x9 :: x10 :: some (.ref v) :: r) rest S I := by
  subst hp
  intro p e R s m args below meth c H locs cells slots arr hC
  exact lv_aload hC.1 hC.2.1 hd (hC.2.2.2.2.2.2.2.2.2.2.2.1.2.2 11 (.ref v) rfl) (k p e R s m args below meth c H locs cells slots arr hC)
theorem P_lload11 {G : GX} {own nm : String} {cc : ByteArray} {nL : Nat} {ret : Option FieldType} {d kc ks : Nat} {Q : Option Value → Shp → Mem → Prop} {pc pc' : Nat} {rest : List Value} {S : Shp} {I : Mem} {x0 x1 x2 x3 x4 x5 x6 x7 x8 x9 x10 : Option Value} {r : List (Option Value)} {v : Int64} (hd : decode cc pc = .ok (.lload 11, 2)) (hp : pc + 2 = pc') (k : PW G own nm cc nL ret d kc ks Q pc' (x0 :: x1 :: x2 :: x3 :: x4 :: x5 :: x6 :: x7 :: x8 :: x9 :: x10 :: some (.long v) :: r) (.long v :: rest) S I) : PW G own nm cc nL ret d kc ks Q pc (x0 :: x1 :: x2 :: x3 :: x4 :: x5 :: x6 :: x7 :: x8 :: x9 :: x10 :: some (.long v) :: r) rest S I := by
  subst hp
  intro p e R s m args below meth c H locs cells slots arr hC
  exact lv_lload hC.1 hC.2.1 hd (hC.2.2.2.2.2.2.2.2.2.2.2.1.2.2 11 (.long v) rfl) (k p e R s m args below meth c H locs cells slots arr hC)
theorem P_istore11 {G : GX} {own nm : String} {cc : ByteArray} {nL : Nat} {ret : Option FieldType} {d kc ks : Nat} {Q : Option Value → Shp → Mem → Prop} {pc pc' : Nat} {rest : List Value} {S : Shp} {I : Mem} {x0 x1 x2 x3 x4 x5 x6 x7 x8 x9 x10 : Option Value} {r : List (Option Value)} {o : Option Value} {v : Int32} (hd : decode cc pc = .ok (.istore 11, 2)) (hp : pc + 2 = pc') (hn : 11 < nL) (h10 : lc1 x10 = true) (k : PW G own nm cc nL ret d kc ks Q pc' (x0 :: x1 :: x2 :: x3 :: x4 :: x5 :: x6 :: x7 :: x8 :: x9 :: x10 :: some (.int v) :: r) rest S I) : PW G own nm cc nL ret d kc ks Q pc (x0 :: x1 :: x2 :: x3 :: x4 :: x5 :: x6 :: x7 :: x8 :: x9 :: x10 :: o :: r) (.int v :: rest) S I := by
  subst hp
  intro p e R s m args below meth c H locs cells slots arr hC
  obtain ⟨hx, hb, c1, c2, c3, c4, c5, c6, c7, c8, c9, hl, c10⟩ := hC
  obtain ⟨arr', e1, e2⟩ := lh_store (i := 11) (v := .int v) hl hn (by simp) rfl (fun j w hj hw => by
    have : j = 10 := by omega
    subst this
    have e1 : x10 = some w := Option.some.inj hw
    rw [e1] at h10
    simpa [lc1] using h10)
  have e2 : lh G arr' nL (x0 :: x1 :: x2 :: x3 :: x4 :: x5 :: x6 :: x7 :: x8 :: x9 :: x10 :: some (.int v) :: r) := e2
  have kk := k p e R s m args below meth c H locs cells slots arr' ⟨hx, hb, c1, c2, c3, c4, c5, c6, c7, c8, c9, e2, c10⟩
  intro T hT X
  obtain ⟨t, a, b⟩ := kk T hT X
  refine ⟨t, ?_, b⟩
  have e1 : storeLocals arr 11 (em G (.int v)) = some arr' := e1
  jvm_step X.here [X.here.top, hx, hb, hd, em]
  first | exact a | exact ⟨arr', e1, a⟩ | exact ⟨rfl, arr', e1, a⟩
theorem P_astore11 {G : GX} {own nm : String} {cc : ByteArray} {nL : Nat} {ret : Option FieldType} {d kc ks : Nat} {Q : Option Value → Shp → Mem → Prop} {pc pc' : Nat} {rest : List Value} {S : Shp} {I : Mem} {x0 x1 x2 x3 x4 x5 x6 x7 x8 x9 x10 : Option Value} {r : List (Option Value)} {o : Option Value} {v : Nat} (hd : decode cc pc = .ok (.astore 11, 2)) (hp : pc + 2 = pc') (hn : 11 < nL) (h10 : lc1 x10 = true) (k : PW G own nm cc nL ret d kc ks Q pc' (x0 :: x1 :: x2 :: x3 :: x4 :: x5 :: x6 :: x7 :: x8 :: x9 :: x10 :: some (.ref v) :: r) rest S I) : PW G own nm cc nL ret d kc ks Q pc (x0 :: x1 :: x2 :: x3 :: x4 :: x5 :: x6 :: x7 :: x8 :: x9 :: x10 :: o :: r) (.ref v :: rest) S I := by
  subst hp
  intro p e R s m args below meth c H locs cells slots arr hC
  obtain ⟨hx, hb, c1, c2, c3, c4, c5, c6, c7, c8, c9, hl, c10⟩ := hC
  obtain ⟨arr', e1, e2⟩ := lh_store (i := 11) (v := .ref v) hl hn (by simp) rfl (fun j w hj hw => by
    have : j = 10 := by omega
    subst this
    have e1 : x10 = some w := Option.some.inj hw
    rw [e1] at h10
    simpa [lc1] using h10)
  have e2 : lh G arr' nL (x0 :: x1 :: x2 :: x3 :: x4 :: x5 :: x6 :: x7 :: x8 :: x9 :: x10 :: some (.ref v) :: r) := e2
  have kk := k p e R s m args below meth c H locs cells slots arr' ⟨hx, hb, c1, c2, c3, c4, c5, c6, c7, c8, c9, e2, c10⟩
  intro T hT X
  obtain ⟨t, a, b⟩ := kk T hT X
  refine ⟨t, ?_, b⟩
  have e1 : storeLocals arr 11 (em G (.ref v)) = some arr' := e1
  jvm_step X.here [X.here.top, hx, hb, hd, em]
  first | exact a | exact ⟨arr', e1, a⟩ | exact ⟨rfl, arr', e1, a⟩
theorem P_iinc11 {G : GX} {own nm : String} {cc : ByteArray} {nL : Nat} {ret : Option FieldType} {d kc ks : Nat} {Q : Option Value → Shp → Mem → Prop} {pc pc' : Nat} {rest : List Value} {S : Shp} {I : Mem} {x0 x1 x2 x3 x4 x5 x6 x7 x8 x9 x10 : Option Value} {r : List (Option Value)} {x v : Int32} {n : Int} (hd : decode cc pc = .ok (.iinc 11 n, 3)) (hp : pc + 3 = pc') (hv : x + Int32.ofInt n = v) (hn : 11 < nL) (h10 : lc1 x10 = true) (k : PW G own nm cc nL ret d kc ks Q pc' (x0 :: x1 :: x2 :: x3 :: x4 :: x5 :: x6 :: x7 :: x8 :: x9 :: x10 :: some (.int v) :: r) rest S I) : PW G own nm cc nL ret d kc ks Q pc (x0 :: x1 :: x2 :: x3 :: x4 :: x5 :: x6 :: x7 :: x8 :: x9 :: x10 :: some (.int x) :: r) rest S I := by
  subst hp
  intro p e R s m args below meth c H locs cells slots arr hC
  obtain ⟨hx, hb, c1, c2, c3, c4, c5, c6, c7, c8, c9, hl, c10⟩ := hC
  obtain ⟨arr', e1, e2⟩ := lh_store (i := 11) (v := .int v) hl hn (by simp) rfl (fun j w hj hw => by
    have : j = 10 := by omega
    subst this
    have e1 : x10 = some w := Option.some.inj hw
    rw [e1] at h10
    simpa [lc1] using h10)
  have e2 : lh G arr' nL (x0 :: x1 :: x2 :: x3 :: x4 :: x5 :: x6 :: x7 :: x8 :: x9 :: x10 :: some (.int v) :: r) := e2
  have hi : arr[11]? = some (.val (.int x)) := hl.2.2 11 (.int x) rfl
  have kk := k p e R s m args below meth c H locs cells slots arr' ⟨hx, hb, c1, c2, c3, c4, c5, c6, c7, c8, c9, e2, c10⟩
  intro T hT X
  obtain ⟨t, a, b⟩ := kk T hT X
  refine ⟨t, ?_, b⟩
  have e1 : storeLocals arr 11 (.int v) = some arr' := e1
  rw [← hv] at e1
  jvm_step X.here [X.here.top, hx, hb, hd, hi, e1]
  exact a
theorem P_lstore11 {G : GX} {own nm : String} {cc : ByteArray} {nL : Nat} {ret : Option FieldType} {d kc ks : Nat} {Q : Option Value → Shp → Mem → Prop} {pc pc' : Nat} {rest : List Value} {S : Shp} {I : Mem} {x0 x1 x2 x3 x4 x5 x6 x7 x8 x9 x10 : Option Value} {r : List (Option Value)} {o o2 : Option Value} {v : Int64} (hd : decode cc pc = .ok (.lstore 11, 2)) (hp : pc + 2 = pc') (hn : 11 + 1 < nL) (h10 : lc1 x10 = true) (k : PW G own nm cc nL ret d kc ks Q pc' (x0 :: x1 :: x2 :: x3 :: x4 :: x5 :: x6 :: x7 :: x8 :: x9 :: x10 :: some (.long v) :: none :: r) rest S I) : PW G own nm cc nL ret d kc ks Q pc (x0 :: x1 :: x2 :: x3 :: x4 :: x5 :: x6 :: x7 :: x8 :: x9 :: x10 :: o :: o2 :: r) (.long v :: rest) S I := by
  subst hp
  intro p e R s m args below meth c H locs cells slots arr hC
  obtain ⟨hx, hb, c1, c2, c3, c4, c5, c6, c7, c8, c9, hl, c10⟩ := hC
  obtain ⟨arr', e1, e2⟩ := lh_storeL (i := 11) (x := v) hl hn (by simp) (fun j w hj hw => by
    have : j = 10 := by omega
    subst this
    have e1 : x10 = some w := Option.some.inj hw
    rw [e1] at h10
    simpa [lc1] using h10)
  have e2 : lh G arr' nL (x0 :: x1 :: x2 :: x3 :: x4 :: x5 :: x6 :: x7 :: x8 :: x9 :: x10 :: some (.long v) :: none :: r) := e2
  have kk := k p e R s m args below meth c H locs cells slots arr' ⟨hx, hb, c1, c2, c3, c4, c5, c6, c7, c8, c9, e2, c10⟩
  intro T hT X
  obtain ⟨t, a, b⟩ := kk T hT X
  refine ⟨t, ?_, b⟩
  jvm_step X.here [X.here.top, hx, hb, hd, em]
  first | exact a | exact ⟨arr', e1, a⟩ | exact ⟨rfl, arr', e1, a⟩
theorem P_iload12 {G : GX} {own nm : String} {cc : ByteArray} {nL : Nat} {ret : Option FieldType} {d kc ks : Nat} {Q : Option Value → Shp → Mem → Prop} {pc pc' : Nat} {rest : List Value} {S : Shp} {I : Mem} {x0 x1 x2 x3 x4 x5 x6 x7 x8 x9 x10 x11 : Option Value} {r : List (Option Value)} {v : Int32} (hd : decode cc pc = .ok (.iload 12, 2)) (hp : pc + 2 = pc') (k : PW G own nm cc nL ret d kc ks Q pc' (x0 :: x1 :: x2 :: x3 :: x4 :: x5 :: x6 :: x7 :: x8 :: x9 :: x10 :: x11 :: some (.int v) :: r) (.int v :: rest) S I) : PW G own nm cc nL ret d kc ks Q pc (x0 :: x1 :: x2 :: x3 :: x4 :: x5 :: x6 :: x7 :: x8 :: x9 :: x10 :: x11 :: some (.int v) :: r) rest S I := by
  subst hp
  intro p e R s m args below meth c H locs cells slots arr hC
  exact lv_iload hC.1 hC.2.1 hd (hC.2.2.2.2.2.2.2.2.2.2.2.1.2.2 12 (.int v) rfl) (k p e R s m args below meth c H locs cells slots arr hC)
theorem P_aload12 {G : GX} {own nm : String} {cc : ByteArray} {nL : Nat} {ret : Option FieldType} {d kc ks : Nat} {Q : Option Value → Shp → Mem → Prop} {pc pc' : Nat} {rest : List Value} {S : Shp} {I : Mem} {x0 x1 x2 x3 x4 x5 x6 x7 x8 x9 x10 x11 : Option Value} {r : List (Option Value)} {v : Nat} (hd : decode cc pc = .ok (.aload 12, 2)) (hp : pc + 2 = pc') (k : PW G own nm cc nL ret d kc ks Q pc' (x0 :: x1 :: x2 :: x3 :: x4 :: x5 :: x6 :: x7 :: x8 :: x9 :: x10 :: x11 :: some (.ref v) :: r) (.ref v :: rest) S I) : PW G own nm cc nL ret d kc ks Q pc (x0 :: x1 :: x2 :: x3 :: x4 :: x5 :: x6 :: x7 :: x8 :: x9 :: x10 :: x11 :: some (.ref v) :: r) rest S I := by
  subst hp
  intro p e R s m args below meth c H locs cells slots arr hC
  exact lv_aload hC.1 hC.2.1 hd (hC.2.2.2.2.2.2.2.2.2.2.2.1.2.2 12 (.ref v) rfl) (k p e R s m args below meth c H locs cells slots arr hC)
theorem P_lload12 {G : GX} {own nm : String} {cc : ByteArray} {nL : Nat} {ret : Option FieldType} {d kc ks : Nat} {Q : Option Value → Shp → Mem → Prop} {pc pc' : Nat} {rest : List Value} {S : Shp} {I : Mem} {x0 x1 x2 x3 x4 x5 x6 x7 x8 x9 x10 x11 : Option Value} {r : List (Option Value)} {v : Int64} (hd : decode cc pc = .ok (.lload 12, 2)) (hp : pc + 2 = pc') (k : PW G own nm cc nL ret d kc ks Q pc' (x0 :: x1 :: x2 :: x3 :: x4 :: x5 :: x6 :: x7 :: x8 :: x9 :: x10 :: x11 :: some (.long v) :: r) (.long v :: rest) S I) : PW G own nm cc nL ret d kc ks Q pc (x0 :: x1 :: x2 :: x3 :: x4 :: x5 :: x6 :: x7 :: x8 :: x9 :: x10 :: x11 :: some (.long v) :: r) rest S I := by
  subst hp
  intro p e R s m args below meth c H locs cells slots arr hC
  exact lv_lload hC.1 hC.2.1 hd (hC.2.2.2.2.2.2.2.2.2.2.2.1.2.2 12 (.long v) rfl) (k p e R s m args below meth c H locs cells slots arr hC)
theorem P_istore12 {G : GX} {own nm : String} {cc : ByteArray} {nL : Nat} {ret : Option FieldType} {d kc ks : Nat} {Q : Option Value → Shp → Mem → Prop} {pc pc' : Nat} {rest : List Value} {S : Shp} {I : Mem} {x0 x1 x2 x3 x4 x5 x6 x7 x8 x9 x10 x11 : Option Value} {r : List (Option Value)} {o : Option Value} {v : Int32} (hd : decode cc pc = .ok (.istore 12, 2)) (hp : pc + 2 = pc') (hn : 12 < nL) (h11 : lc1 x11 = true) (k : PW G own nm cc nL ret d kc ks Q pc' (x0 :: x1 :: x2 :: x3 :: x4 :: x5 :: x6 :: x7 :: x8 :: x9 :: x10 :: x11 :: some (.int v) :: r) rest S I) : PW G own nm cc nL ret d kc ks Q pc (x0 :: x1 :: x2 :: x3 :: x4 :: x5 :: x6 :: x7 :: x8 :: x9 :: x10 :: x11 :: o :: r) (.int v :: rest) S I := by
  subst hp
  intro p e R s m args below meth c H locs cells slots arr hC
  obtain ⟨hx, hb, c1, c2, c3, c4, c5, c6, c7, c8, c9, hl, c10⟩ := hC
  obtain ⟨arr', e1, e2⟩ := lh_store (i := 12) (v := .int v) hl hn (by simp) rfl (fun j w hj hw => by
    have : j = 11 := by omega
    subst this
    have e1 : x11 = some w := Option.some.inj hw
    rw [e1] at h11
    simpa [lc1] using h11)
  have e2 : lh G arr' nL (x0 :: x1 :: x2 :: x3 :: x4 :: x5 :: x6 :: x7 :: x8 :: x9 :: x10 :: x11 :: some (.int v) :: r) := e2
  have kk := k p e R s m args below meth c H locs cells slots arr' ⟨hx, hb, c1, c2, c3, c4, c5, c6, c7, c8, c9, e2, c10⟩
  intro T hT X
  obtain ⟨t, a, b⟩ := kk T hT X
  refine ⟨t, ?_, b⟩
  have e1 : storeLocals arr 12 (em G (.int v)) = some arr' := e1
  jvm_step X.here [X.here.top, hx, hb, hd, em]
  first | exact a | exact ⟨arr', e1, a⟩ | exact ⟨rfl, arr', e1, a⟩
theorem P_astore12 {G : GX} {own nm : String} {cc : ByteArray} {nL : Nat} {ret : Option FieldType} {d kc ks : Nat} {Q : Option Value → Shp → Mem → Prop} {pc pc' : Nat} {rest : List Value} {S : Shp} {I : Mem} {x0 x1 x2 x3 x4 x5 x6 x7 x8 x9 x10 x11 : Option Value} {r : List (Option Value)} {o : Option Value} {v : Nat} (hd : decode cc pc = .ok (.astore 12, 2)) (hp : pc + 2 = pc') (hn : 12 < nL) (h11 : lc1 x11 = true) (k : PW G own nm cc nL ret d kc ks Q pc' (x0 :: x1 :: x2 :: x3 :: x4 :: x5 :: x6 :: x7 :: x8 :: x9 :: x10 :: x11 :: some (.ref v) :: r) rest S I) : PW G own nm cc nL ret d kc ks Q pc (x0 :: x1 :: x2 :: x3 :: x4 :: x5 :: x6 :: x7 :: x8 :: x9 :: x10 :: x11 :: o :: r) (.ref v :: rest) S I := by
  subst hp
  intro p e R s m args below meth c H locs cells slots arr hC
  obtain ⟨hx, hb, c1, c2, c3, c4, c5, c6, c7, c8, c9, hl, c10⟩ := hC
  obtain ⟨arr', e1, e2⟩ := lh_store (i := 12) (v := .ref v) hl hn (by simp) rfl (fun j w hj hw => by
    have : j = 11 := by omega
    subst this
    have e1 : x11 = some w := Option.some.inj hw
    rw [e1] at h11
    simpa [lc1] using h11)
  have e2 : lh G arr' nL (x0 :: x1 :: x2 :: x3 :: x4 :: x5 :: x6 :: x7 :: x8 :: x9 :: x10 :: x11 :: some (.ref v) :: r) := e2
  have kk := k p e R s m args below meth c H locs cells slots arr' ⟨hx, hb, c1, c2, c3, c4, c5, c6, c7, c8, c9, e2, c10⟩
  intro T hT X
  obtain ⟨t, a, b⟩ := kk T hT X
  refine ⟨t, ?_, b⟩
  have e1 : storeLocals arr 12 (em G (.ref v)) = some arr' := e1
  jvm_step X.here [X.here.top, hx, hb, hd, em]
  first | exact a | exact ⟨arr', e1, a⟩ | exact ⟨rfl, arr', e1, a⟩
theorem P_iinc12 {G : GX} {own nm : String} {cc : ByteArray} {nL : Nat} {ret : Option FieldType} {d kc ks : Nat} {Q : Option Value → Shp → Mem → Prop} {pc pc' : Nat} {rest : List Value} {S : Shp} {I : Mem} {x0 x1 x2 x3 x4 x5 x6 x7 x8 x9 x10 x11 : Option Value} {r : List (Option Value)} {x v : Int32} {n : Int} (hd : decode cc pc = .ok (.iinc 12 n, 3)) (hp : pc + 3 = pc') (hv : x + Int32.ofInt n = v) (hn : 12 < nL) (h11 : lc1 x11 = true) (k : PW G own nm cc nL ret d kc ks Q pc' (x0 :: x1 :: x2 :: x3 :: x4 :: x5 :: x6 :: x7 :: x8 :: x9 :: x10 :: x11 :: some (.int v) :: r) rest S I) : PW G own nm cc nL ret d kc ks Q pc (x0 :: x1 :: x2 :: x3 :: x4 :: x5 :: x6 :: x7 :: x8 :: x9 :: x10 :: x11 :: some (.int x) :: r) rest S I := by
  subst hp
  intro p e R s m args below meth c H locs cells slots arr hC
  obtain ⟨hx, hb, c1, c2, c3, c4, c5, c6, c7, c8, c9, hl, c10⟩ := hC
  obtain ⟨arr', e1, e2⟩ := lh_store (i := 12) (v := .int v) hl hn (by simp) rfl (fun j w hj hw => by
    have : j = 11 := by omega
    subst this
    have e1 : x11 = some w := Option.some.inj hw
    rw [e1] at h11
    simpa [lc1] using h11)
  have e2 : lh G arr' nL (x0 :: x1 :: x2 :: x3 :: x4 :: x5 :: x6 :: x7 :: x8 :: x9 :: x10 :: x11 :: some (.int v) :: r) := e2
  have hi : arr[12]? = some (.val (.int x)) := hl.2.2 12 (.int x) rfl
  have kk := k p e R s m args below meth c H locs cells slots arr' ⟨hx, hb, c1, c2, c3, c4, c5, c6, c7, c8, c9, e2, c10⟩
  intro T hT X
  obtain ⟨t, a, b⟩ := kk T hT X
  refine ⟨t, ?_, b⟩
  have e1 : storeLocals arr 12 (.int v) = some arr' := e1
  rw [← hv] at e1
  jvm_step X.here [X.here.top, hx, hb, hd, hi, e1]
  exact a
theorem P_less {G : GX} {own nm : String} {cc : ByteArray} {nL : Nat} {ret : Option FieldType} {d kc ks : Nat} {Q : Option Value → Shp → Mem → Prop} {pc : Nat} {ls : List (Option Value)} {rest : List Value} {S : Shp} {I : Mem} {ls' : List (Option Value)} (h : ∀ (i : Nat) (v : Value), ls'[i]? = some (some v) → ls[i]? = some (some v)) (k : PW G own nm cc nL ret d kc ks Q pc ls' rest S I) : PW G own nm cc nL ret d kc ks Q pc ls rest S I := by
  intro p e R s m args below meth c H locs cells slots arr hC
  obtain ⟨hx, hb, c1, c2, c3, c4, c5, c6, c7, c8, c9, hl, c10⟩ := hC
  exact k p e R s m args below meth c H locs cells slots arr ⟨hx, hb, c1, c2, c3, c4, c5, c6, c7, c8, c9, ⟨hl.1, hl.2.1, fun i v hi => hl.2.2 i v (h i v hi)⟩, c10⟩
def lsub : List (Option Value) → List (Option Value) → Prop
  | [], _ => True
  | none :: a, _ :: b => lsub a b
  | some v :: a, some w :: b => v = w ∧ lsub a b
  | none :: a, [] => lsub a []
  | some _ :: _, _ => False
theorem lsub_at : ∀ (a b : List (Option Value)), lsub a b → ∀ (i : Nat) (v : Value), a[i]? = some (some v) → b[i]? = some (some v)
  | [], _, _, i, v, h => by simp at h
  | none :: a, x :: b, h, 0, v, hi => by simp at hi
  | none :: a, x :: b, h, i + 1, v, hi => by
    simp only [lsub] at h
    simp only [List.getElem?_cons_succ] at hi ⊢
    exact lsub_at a b h i v hi
  | some v :: a, some w :: b, h, 0, u, hi => by
    simp only [lsub] at h
    simp only [List.getElem?_cons_zero] at hi ⊢
    rw [← h.1]
    exact hi
  | some v :: a, some w :: b, h, i + 1, u, hi => by
    simp only [lsub] at h
    simp only [List.getElem?_cons_succ] at hi ⊢
    exact lsub_at a b h.2 i u hi
  | none :: a, [], h, 0, v, hi => by simp at hi
  | none :: a, [], h, i + 1, v, hi => by
    simp only [lsub] at h
    simp only [List.getElem?_cons_succ] at hi
    have := lsub_at a [] h i v hi
    simp at this
  | some _ :: _, [], h, _, _, _ => by simp [lsub] at h
  | some _ :: _, none :: _, h, _, _, _ => by simp [lsub] at h
theorem P_sub {G : GX} {own nm : String} {cc : ByteArray} {nL : Nat} {ret : Option FieldType} {d kc ks : Nat} {Q : Option Value → Shp → Mem → Prop} {pc : Nat} {ls : List (Option Value)} {rest : List Value} {S : Shp} {I : Mem} (ls' : List (Option Value)) (h : lsub ls' ls) (k : PW G own nm cc nL ret d kc ks Q pc ls' rest S I) : PW G own nm cc nL ret d kc ks Q pc ls rest S I := P_less (lsub_at _ _ h) k
theorem P_iret {G : GX} {own nm : String} {cc : ByteArray} {nL : Nat} {d kc ks : Nat} {Q : Option Value → Shp → Mem → Prop} {pc : Nat} {ls : List (Option Value)} {S : Shp} {I : Mem} {v : Int32} (hd : decode cc pc = .ok (.ireturn, 1)) (h : Q (some (.int v)) S I) : PW G own nm cc nL (some .int) d kc ks Q pc ls [.int v] S I := by
  intro p e R s m args below meth c H locs cells slots arr hC
  obtain ⟨hx, hb, hr, c2, c3, hlocks, c5, c6, hO, hS, hP, hl, c10⟩ := hC
  refine W.widen (k := cells + kc) (n := slots + ks) (by omega) (by omega) ?_
  exact W.iret (v := v) hx hb hr (fun t ht hW => ⟨(some (.int v)), S, I, rfl, h, by rw [ht]; exact hP, by rw [ht]; exact hS.1, fun q hq => by rw [ht]; exact hS.2.1 q (Nat.lt_of_lt_of_le hq hO.2.1) (Nat.not_le.mpr hq)⟩) hS.2.2 hd
theorem P_zret {G : GX} {own nm : String} {cc : ByteArray} {nL : Nat} {d kc ks : Nat} {Q : Option Value → Shp → Mem → Prop} {pc : Nat} {ls : List (Option Value)} {S : Shp} {I : Mem} {v : Int32} (hd : decode cc pc = .ok (.ireturn, 1)) (hv : v = 0 ∨ v = 1) (h : Q (some (.int v)) S I) : PW G own nm cc nL (some .boolean) d kc ks Q pc ls [.int v] S I := by
  intro p e R s m args below meth c H locs cells slots arr hC
  obtain ⟨hx, hb, hr, c2, c3, hlocks, c5, c6, hO, hS, hP, hl, c10⟩ := hC
  refine W.widen (k := cells + kc) (n := slots + ks) (by omega) (by omega) ?_
  exact W.zret (v := v) (ty := .boolean) hx hb hr (by rcases hv with rfl | rfl <;> rfl) (fun t ht hW => ⟨(some (.int v)), S, I, rfl, h, by rw [ht]; exact hP, by rw [ht]; exact hS.1, fun q hq => by rw [ht]; exact hS.2.1 q (Nat.lt_of_lt_of_le hq hO.2.1) (Nat.not_le.mpr hq)⟩) hS.2.2 hd
theorem P_cret {G : GX} {own nm : String} {cc : ByteArray} {nL : Nat} {d kc ks : Nat} {Q : Option Value → Shp → Mem → Prop} {pc : Nat} {ls : List (Option Value)} {S : Shp} {I : Mem} {v : Int32} (hd : decode cc pc = .ok (.ireturn, 1)) (hv : narrow .char (.int v) = .int v) (h : Q (some (.int v)) S I) : PW G own nm cc nL (some .char) d kc ks Q pc ls [.int v] S I := by
  intro p e R s m args below meth c H locs cells slots arr hC
  obtain ⟨hx, hb, hr, c2, c3, hlocks, c5, c6, hO, hS, hP, hl, c10⟩ := hC
  refine W.widen (k := cells + kc) (n := slots + ks) (by omega) (by omega) ?_
  exact W.zret (v := v) (ty := .char) hx hb hr hv (fun t ht hW => ⟨(some (.int v)), S, I, rfl, h, by rw [ht]; exact hP, by rw [ht]; exact hS.1, fun q hq => by rw [ht]; exact hS.2.1 q (Nat.lt_of_lt_of_le hq hO.2.1) (Nat.not_le.mpr hq)⟩) hS.2.2 hd
theorem P_bret {G : GX} {own nm : String} {cc : ByteArray} {nL : Nat} {d kc ks : Nat} {Q : Option Value → Shp → Mem → Prop} {pc : Nat} {ls : List (Option Value)} {S : Shp} {I : Mem} {v : Int32} (hd : decode cc pc = .ok (.ireturn, 1)) (hv : narrow .byte (.int v) = .int v) (h : Q (some (.int v)) S I) : PW G own nm cc nL (some .byte) d kc ks Q pc ls [.int v] S I := by
  intro p e R s m args below meth c H locs cells slots arr hC
  obtain ⟨hx, hb, hr, c2, c3, hlocks, c5, c6, hO, hS, hP, hl, c10⟩ := hC
  refine W.widen (k := cells + kc) (n := slots + ks) (by omega) (by omega) ?_
  exact W.zret (v := v) (ty := .byte) hx hb hr hv (fun t ht hW => ⟨(some (.int v)), S, I, rfl, h, by rw [ht]; exact hP, by rw [ht]; exact hS.1, fun q hq => by rw [ht]; exact hS.2.1 q (Nat.lt_of_lt_of_le hq hO.2.1) (Nat.not_le.mpr hq)⟩) hS.2.2 hd
theorem P_lret {G : GX} {own nm : String} {cc : ByteArray} {nL : Nat} {d kc ks : Nat} {Q : Option Value → Shp → Mem → Prop} {pc : Nat} {ls : List (Option Value)} {S : Shp} {I : Mem} {v : Int64} (hd : decode cc pc = .ok (.lreturn, 1)) (h : Q (some (.long v)) S I) : PW G own nm cc nL (some .long) d kc ks Q pc ls [.long v] S I := by
  intro p e R s m args below meth c H locs cells slots arr hC
  obtain ⟨hx, hb, hr, c2, c3, hlocks, c5, c6, hO, hS, hP, hl, c10⟩ := hC
  refine W.widen (k := cells + kc) (n := slots + ks) (by omega) (by omega) ?_
  exact W.lret (v := v) hx hb hr (fun t ht hW => ⟨(some (.long v)), S, I, rfl, h, by rw [ht]; exact hP, by rw [ht]; exact hS.1, fun q hq => by rw [ht]; exact hS.2.1 q (Nat.lt_of_lt_of_le hq hO.2.1) (Nat.not_le.mpr hq)⟩) hS.2.2 hd
theorem P_vret {G : GX} {own nm : String} {cc : ByteArray} {nL : Nat} {d kc ks : Nat} {Q : Option Value → Shp → Mem → Prop} {pc : Nat} {ls : List (Option Value)} {S : Shp} {I : Mem} (hd : decode cc pc = .ok (.return_, 1)) (h : Q none S I) : PW G own nm cc nL none d kc ks Q pc ls [] S I := by
  intro p e R s m args below meth c H locs cells slots arr hC
  obtain ⟨hx, hb, hr, c2, c3, hlocks, c5, c6, hO, hS, hP, hl, c10⟩ := hC
  refine W.widen (k := cells + kc) (n := slots + ks) (by omega) (by omega) ?_
  exact W.vret hx hb hr (fun t ht hW => ⟨none, S, I, rfl, h, by rw [ht]; exact hP, by rw [ht]; exact hS.1, fun q hq => by rw [ht]; exact hS.2.1 q (Nat.lt_of_lt_of_le hq hO.2.1) (Nat.not_le.mpr hq)⟩) hS.2.2 hd
theorem P_aret {G : GX} {own nm : String} {cc : ByteArray} {nL : Nat} {d kc ks : Nat} {Q : Option Value → Shp → Mem → Prop} {pc : Nat} {ls : List (Option Value)} {S : Shp} {I : Mem} {a : Nat} {n : String} (hd : decode cc pc = .ok (.areturn, 1)) (h : Q (some (.ref a)) S I) : PW G own nm cc nL (some (.object n)) d kc ks Q pc ls [.ref a] S I := by
  intro p e R s m args below meth c H locs cells slots arr hC
  obtain ⟨hx, hb, hr, c2, c3, hlocks, c5, c6, hO, hS, hP, hl, c10⟩ := hC
  refine W.widen (k := cells + kc) (n := slots + ks) (by omega) (by omega) ?_
  exact W.aret hx hb hr (Or.inl ⟨n, rfl⟩) (Or.inr ⟨_, rfl⟩) (fun t ht hW => ⟨(some (.ref a)), S, I, rfl, h, by rw [ht]; exact hP, by rw [ht]; exact hS.1, fun q hq => by rw [ht]; exact hS.2.1 q (Nat.lt_of_lt_of_le hq hO.2.1) (Nat.not_le.mpr hq)⟩) hS.2.2 hd
theorem P_aretA {G : GX} {own nm : String} {cc : ByteArray} {nL : Nat} {d kc ks : Nat} {Q : Option Value → Shp → Mem → Prop} {pc : Nat} {ls : List (Option Value)} {S : Shp} {I : Mem} {a : Nat} {n : FieldType} (hd : decode cc pc = .ok (.areturn, 1)) (h : Q (some (.ref a)) S I) : PW G own nm cc nL (some (.array n)) d kc ks Q pc ls [.ref a] S I := by
  intro p e R s m args below meth c H locs cells slots arr hC
  obtain ⟨hx, hb, hr, c2, c3, hlocks, c5, c6, hO, hS, hP, hl, c10⟩ := hC
  refine W.widen (k := cells + kc) (n := slots + ks) (by omega) (by omega) ?_
  exact W.aret hx hb hr (Or.inr ⟨n, rfl⟩) (Or.inr ⟨_, rfl⟩) (fun t ht hW => ⟨(some (.ref a)), S, I, rfl, h, by rw [ht]; exact hP, by rw [ht]; exact hS.1, fun q hq => by rw [ht]; exact hS.2.1 q (Nat.lt_of_lt_of_le hq hO.2.1) (Nat.not_le.mpr hq)⟩) hS.2.2 hd
theorem P_aretN {G : GX} {own nm : String} {cc : ByteArray} {nL : Nat} {d kc ks : Nat} {Q : Option Value → Shp → Mem → Prop} {pc : Nat} {ls : List (Option Value)} {S : Shp} {I : Mem} {n : String} (hd : decode cc pc = .ok (.areturn, 1)) (h : Q (some .null) S I) : PW G own nm cc nL (some (.object n)) d kc ks Q pc ls [.null] S I := by
  intro p e R s m args below meth c H locs cells slots arr hC
  obtain ⟨hx, hb, hr, c2, c3, hlocks, c5, c6, hO, hS, hP, hl, c10⟩ := hC
  refine W.widen (k := cells + kc) (n := slots + ks) (by omega) (by omega) ?_
  exact W.aret hx hb hr (Or.inl ⟨n, rfl⟩) (Or.inl rfl) (fun t ht hW => ⟨(some .null), S, I, rfl, h, by rw [ht]; exact hP, by rw [ht]; exact hS.1, fun q hq => by rw [ht]; exact hS.2.1 q (Nat.lt_of_lt_of_le hq hO.2.1) (Nat.not_le.mpr hq)⟩) hS.2.2 hd
