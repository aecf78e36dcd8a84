section ROWS
variable {l : Launch} {y : MethodName} {cc : ByteArray} {nL : Nat} {ret : Option FieldType} {hh : List (Nat × Nat × Nat × Nat)} {ext : Option (Nat × (Nat → Int32))} {Z : MZ} {d bc bs : Nat} {pc : Nat} {lv : List (Nat × Value)} {st : List Value} {w : MW}
theorem go_iload {k : Nat} {x : Int32} (hd : decode cc pc = .ok (.iload k, 2)) (hx : mm_lk lv k = some (.int x)) (h : Go l y cc nL ret hh ext Z d bc bs (pc + 2) lv (.int x :: st) w) : Go l y cc nL ret hh ext Z d bc bs pc lv st w := by
  intro p e R s m args below meth c D dA A ad0 N0 C H locs cells slots ad ls h1 h2 h3 h4 h5 h6 h7 h8
  exact lv_iload C.1 C.2.1 hd (h7.2.2 _ _ hx).1 (h p e R s m args below meth c D dA A ad0 N0 C H locs cells slots ad ls h1 h2 h3 h4 h5 h6 h7 (mm_O.cons mm_okv_int h8))
theorem go_lload_n {k : Fin 4} {x : Int64} (hd : decode cc pc = .ok (.lload_n k, 1)) (hx : mm_lk lv k = some (.long x)) (h : Go l y cc nL ret hh ext Z d bc bs (pc + 1) lv (.long x :: st) w) : Go l y cc nL ret hh ext Z d bc bs pc lv st w := by
  intro p e R s m args below meth c D dA A ad0 N0 C H locs cells slots ad ls h1 h2 h3 h4 h5 h6 h7 h8
  exact lv_lload_n C.1 C.2.1 hd rfl (h7.2.2 _ _ hx).1 (h p e R s m args below meth c D dA A ad0 N0 C H locs cells slots ad ls h1 h2 h3 h4 h5 h6 h7 (mm_O.cons mm_okv_long h8))
theorem go_aload_n {k : Fin 4} {x : Nat} (hd : decode cc pc = .ok (.aload_n k, 1)) (hx : mm_lk lv k = some (.ref x)) (h : Go l y cc nL ret hh ext Z d bc bs (pc + 1) lv (.ref x :: st) w) : Go l y cc nL ret hh ext Z d bc bs pc lv st w := by
  intro p e R s m args below meth c D dA A ad0 N0 C H locs cells slots ad ls h1 h2 h3 h4 h5 h6 h7 h8
  exact lv_aload_n C.1 C.2.1 hd rfl (h7.2.2 _ _ hx).1 (h p e R s m args below meth c D dA A ad0 N0 C H locs cells slots ad ls h1 h2 h3 h4 h5 h6 h7 (mm_O.cons (h7.2.2 _ _ hx).2 h8))
theorem go_aload {k : Nat} {x : Nat} (hd : decode cc pc = .ok (.aload k, 2)) (hx : mm_lk lv k = some (.ref x)) (h : Go l y cc nL ret hh ext Z d bc bs (pc + 2) lv (.ref x :: st) w) : Go l y cc nL ret hh ext Z d bc bs pc lv st w := by
  intro p e R s m args below meth c D dA A ad0 N0 C H locs cells slots ad ls h1 h2 h3 h4 h5 h6 h7 h8
  exact lv_aload C.1 C.2.1 hd (h7.2.2 _ _ hx).1 (h p e R s m args below meth c D dA A ad0 N0 C H locs cells slots ad ls h1 h2 h3 h4 h5 h6 h7 (mm_O.cons (h7.2.2 _ _ hx).2 h8))
theorem go_istore_n {k : Fin 4} {x : Int32} (hd : decode cc pc = .ok (.istore_n k, 1)) (hn : (k : Nat) < nL) (hc : mm_c1 lv k = true) (h : Go l y cc nL ret hh ext Z d bc bs (pc + 1) (((k : Nat), .int x) :: lv) st w) : Go l y cc nL ret hh ext Z d bc bs pc lv (.int x :: st) w := by
  intro p e R s m args below meth c D dA A ad0 N0 C H locs cells slots ad ls h1 h2 h3 h4 h5 h6 h7 h8
  exact lv_istore_n C.1 C.2.1 hd rfl h7.has hn rfl (fun ls' hl' => (h p e R s m args below meth c D dA A ad0 N0 C H locs cells slots ad ls' h1 h2 h3 h4 h5 h6 (h7.put hc h8.head hl') h8.tail))
theorem go_istore {k : Nat} {x : Int32} (hd : decode cc pc = .ok (.istore k, 2)) (hn : k < nL) (hc : mm_c1 lv k = true) (h : Go l y cc nL ret hh ext Z d bc bs (pc + 2) ((k, .int x) :: lv) st w) : Go l y cc nL ret hh ext Z d bc bs pc lv (.int x :: st) w := by
  intro p e R s m args below meth c D dA A ad0 N0 C H locs cells slots ad ls h1 h2 h3 h4 h5 h6 h7 h8
  exact lv_istore C.1 C.2.1 hd h7.has hn rfl (fun ls' hl' => (h p e R s m args below meth c D dA A ad0 N0 C H locs cells slots ad ls' h1 h2 h3 h4 h5 h6 (h7.put hc h8.head hl') h8.tail))
theorem go_astore_n {k : Fin 4} {x : Nat} (hd : decode cc pc = .ok (.astore_n k, 1)) (hn : (k : Nat) < nL) (hc : mm_c1 lv k = true) (h : Go l y cc nL ret hh ext Z d bc bs (pc + 1) (((k : Nat), .ref x) :: lv) st w) : Go l y cc nL ret hh ext Z d bc bs pc lv (.ref x :: st) w := by
  intro p e R s m args below meth c D dA A ad0 N0 C H locs cells slots ad ls h1 h2 h3 h4 h5 h6 h7 h8
  exact lv_astore_n C.1 C.2.1 hd rfl h7.has hn rfl (fun ls' hl' => (h p e R s m args below meth c D dA A ad0 N0 C H locs cells slots ad ls' h1 h2 h3 h4 h5 h6 (h7.put hc h8.head hl') h8.tail))
theorem go_astore {k : Nat} {x : Nat} (hd : decode cc pc = .ok (.astore k, 2)) (hn : k < nL) (hc : mm_c1 lv k = true) (h : Go l y cc nL ret hh ext Z d bc bs (pc + 2) ((k, .ref x) :: lv) st w) : Go l y cc nL ret hh ext Z d bc bs pc lv (.ref x :: st) w := by
  intro p e R s m args below meth c D dA A ad0 N0 C H locs cells slots ad ls h1 h2 h3 h4 h5 h6 h7 h8
  exact lv_astore C.1 C.2.1 hd h7.has hn rfl (fun ls' hl' => (h p e R s m args below meth c D dA A ad0 N0 C H locs cells slots ad ls' h1 h2 h3 h4 h5 h6 (h7.put hc h8.head hl') h8.tail))
theorem go_lstore_n {k : Fin 4} {x : Int64} (hd : decode cc pc = .ok (.lstore_n k, 1)) (hn : (k : Nat) + 1 < nL) (hc : mm_c1 lv k = true) (hc2 : mm_lk lv ((k : Nat) + 1) = none) (h : Go l y cc nL ret hh ext Z d bc bs (pc + 1) (((k : Nat), .long x) :: lv) st w) : Go l y cc nL ret hh ext Z d bc bs pc lv (.long x :: st) w := by
  intro p e R s m args below meth c D dA A ad0 N0 C H locs cells slots ad ls h1 h2 h3 h4 h5 h6 h7 h8
  exact lv_lstore_n C.1 C.2.1 hd rfl h7.has hn rfl (fun ls' hl' => (h p e R s m args below meth c D dA A ad0 N0 C H locs cells slots ad ls' h1 h2 h3 h4 h5 h6 (h7.put2 hc hc2 h8.head hl') h8.tail))
theorem go_iinc {i : Nat} {n : Int} {x v : Int32} (hd : decode cc pc = .ok (.iinc i n, 3)) (hx : mm_lk lv i = some (.int x)) (hn : i < nL) (hc : mm_c1 lv i = true) (hv : x + Int32.ofInt n = v) (h : Go l y cc nL ret hh ext Z d bc bs (pc + 3) ((i, .int v) :: lv) st w) : Go l y cc nL ret hh ext Z d bc bs pc lv st w := by
  intro p e R s m args below meth c D dA A ad0 N0 C H locs cells slots ad ls h1 h2 h3 h4 h5 h6 h7 h8
  have hm : (i, Value.int x) ∈ (List.range nL).filterMap (fun j => (mm_lk lv j).map (fun v => (j, mm_rv ad v))) := List.mem_filterMap.mpr ⟨i, List.mem_range.mpr hn, by rw [hx]; rfl⟩
  obtain ⟨k, hk⟩ := List.getElem?_of_mem hm
  exact lv_iinc C.1 C.2.1 hd h7.has hk hv hn rfl (fun ls' hl' => (h p e R s m args below meth c D dA A ad0 N0 C H locs cells slots ad ls' h1 h2 h3 h4 h5 h6 (h7.put hc mm_okv_int hl') h8))
theorem go_iconst {n : Int} (v : Int32) (hd : decode cc pc = .ok (.iconst n, 1)) (hv : Int32.ofInt n = v) (h : Go l y cc nL ret hh ext Z d bc bs (pc + 1) lv (.int v :: st) w) : Go l y cc nL ret hh ext Z d bc bs pc lv st w := by
  intro p e R s m args below meth c D dA A ad0 N0 C H locs cells slots ad ls h1 h2 h3 h4 h5 h6 h7 h8
  exact lv_iconst C.1 C.2.1 hd hv (h p e R s m args below meth c D dA A ad0 N0 C H locs cells slots ad ls h1 h2 h3 h4 h5 h6 h7 (mm_O.cons mm_okv_int h8))
theorem go_bipush {n : Int} (v : Int32) (hd : decode cc pc = .ok (.bipush n, 2)) (hv : (Int8.ofInt n).toInt32 = v) (h : Go l y cc nL ret hh ext Z d bc bs (pc + 2) lv (.int v :: st) w) : Go l y cc nL ret hh ext Z d bc bs pc lv st w := by
  intro p e R s m args below meth c D dA A ad0 N0 C H locs cells slots ad ls h1 h2 h3 h4 h5 h6 h7 h8
  exact lv_bipush C.1 C.2.1 hd hv (h p e R s m args below meth c D dA A ad0 N0 C H locs cells slots ad ls h1 h2 h3 h4 h5 h6 h7 (mm_O.cons mm_okv_int h8))
theorem go_sipush {n : Int} (v : Int32) (hd : decode cc pc = .ok (.sipush n, 3)) (hv : (Int16.ofInt n).toInt32 = v) (h : Go l y cc nL ret hh ext Z d bc bs (pc + 3) lv (.int v :: st) w) : Go l y cc nL ret hh ext Z d bc bs pc lv st w := by
  intro p e R s m args below meth c D dA A ad0 N0 C H locs cells slots ad ls h1 h2 h3 h4 h5 h6 h7 h8
  exact lv_sipush C.1 C.2.1 hd hv (h p e R s m args below meth c D dA A ad0 N0 C H locs cells slots ad ls h1 h2 h3 h4 h5 h6 h7 (mm_O.cons mm_okv_int h8))
theorem go_ldc {idx : Nat} {v : Int32} (hd : decode cc pc = .ok (.ldc idx, 2)) (hv : Cond.constant y.cls idx v ∈ mm_GW) (h : Go l y cc nL ret hh ext Z d bc bs (pc + 2) lv (.int v :: st) w) : Go l y cc nL ret hh ext Z d bc bs pc lv st w := by
  intro p e R s m args below meth c D dA A ad0 N0 C H locs cells slots ad ls h1 h2 h3 h4 h5 h6 h7 h8
  exact lv_ldc C.1 C.2.1 C.2.2.2.2.1 (C.2.2.2.2.2.2.2.2.2.2.2.1.1.hts _ hv) hd (h p e R s m args below meth c D dA A ad0 N0 C H locs cells slots ad ls h1 h2 h3 h4 h5 h6 h7 (mm_O.cons mm_okv_int h8))
theorem go_ldc2 {idx : Nat} {v : Int64} (hd : decode cc pc = .ok (.ldc2_w idx, 3)) (hv : Cond.constantLong y.cls idx v ∈ mm_GW) (h : Go l y cc nL ret hh ext Z d bc bs (pc + 3) lv (.long v :: st) w) : Go l y cc nL ret hh ext Z d bc bs pc lv st w := by
  intro p e R s m args below meth c D dA A ad0 N0 C H locs cells slots ad ls h1 h2 h3 h4 h5 h6 h7 h8
  exact lv_ldc2 C.1 C.2.1 C.2.2.2.2.1 (C.2.2.2.2.2.2.2.2.2.2.2.1.1.hts _ hv) hd (h p e R s m args below meth c D dA A ad0 N0 C H locs cells slots ad ls h1 h2 h3 h4 h5 h6 h7 (mm_O.cons mm_okv_long h8))
theorem go_iadd {x z : Int32} (hd : decode cc pc = .ok (.iadd, 1)) (h : Go l y cc nL ret hh ext Z d bc bs (pc + 1) lv (.int (x + z) :: st) w) : Go l y cc nL ret hh ext Z d bc bs pc lv (.int z :: .int x :: st) w := by
  intro p e R s m args below meth c D dA A ad0 N0 C H locs cells slots ad ls h1 h2 h3 h4 h5 h6 h7 h8
  exact lv_iadd C.1 C.2.1 hd (h p e R s m args below meth c D dA A ad0 N0 C H locs cells slots ad ls h1 h2 h3 h4 h5 h6 h7 (mm_O.cons mm_okv_int h8.tail.tail))
theorem go_isub {x z : Int32} (hd : decode cc pc = .ok (.isub, 1)) (h : Go l y cc nL ret hh ext Z d bc bs (pc + 1) lv (.int (x - z) :: st) w) : Go l y cc nL ret hh ext Z d bc bs pc lv (.int z :: .int x :: st) w := by
  intro p e R s m args below meth c D dA A ad0 N0 C H locs cells slots ad ls h1 h2 h3 h4 h5 h6 h7 h8
  exact lv_isub C.1 C.2.1 hd (h p e R s m args below meth c D dA A ad0 N0 C H locs cells slots ad ls h1 h2 h3 h4 h5 h6 h7 (mm_O.cons mm_okv_int h8.tail.tail))
theorem go_imul {x z : Int32} (hd : decode cc pc = .ok (.imul, 1)) (h : Go l y cc nL ret hh ext Z d bc bs (pc + 1) lv (.int (x * z) :: st) w) : Go l y cc nL ret hh ext Z d bc bs pc lv (.int z :: .int x :: st) w := by
  intro p e R s m args below meth c D dA A ad0 N0 C H locs cells slots ad ls h1 h2 h3 h4 h5 h6 h7 h8
  exact lv_imul C.1 C.2.1 hd (h p e R s m args below meth c D dA A ad0 N0 C H locs cells slots ad ls h1 h2 h3 h4 h5 h6 h7 (mm_O.cons mm_okv_int h8.tail.tail))
theorem go_iand {x z : Int32} (hd : decode cc pc = .ok (.iand, 1)) (h : Go l y cc nL ret hh ext Z d bc bs (pc + 1) lv (.int (x &&& z) :: st) w) : Go l y cc nL ret hh ext Z d bc bs pc lv (.int z :: .int x :: st) w := by
  intro p e R s m args below meth c D dA A ad0 N0 C H locs cells slots ad ls h1 h2 h3 h4 h5 h6 h7 h8
  exact lv_iand C.1 C.2.1 hd (h p e R s m args below meth c D dA A ad0 N0 C H locs cells slots ad ls h1 h2 h3 h4 h5 h6 h7 (mm_O.cons mm_okv_int h8.tail.tail))
theorem go_ior {x z : Int32} (hd : decode cc pc = .ok (.ior, 1)) (h : Go l y cc nL ret hh ext Z d bc bs (pc + 1) lv (.int (x ||| z) :: st) w) : Go l y cc nL ret hh ext Z d bc bs pc lv (.int z :: .int x :: st) w := by
  intro p e R s m args below meth c D dA A ad0 N0 C H locs cells slots ad ls h1 h2 h3 h4 h5 h6 h7 h8
  exact lv_ior C.1 C.2.1 hd (h p e R s m args below meth c D dA A ad0 N0 C H locs cells slots ad ls h1 h2 h3 h4 h5 h6 h7 (mm_O.cons mm_okv_int h8.tail.tail))
theorem go_ishl {x z : Int32} (hd : decode cc pc = .ok (.ishl, 1)) (h : Go l y cc nL ret hh ext Z d bc bs (pc + 1) lv (.int (x <<< (z &&& 31)) :: st) w) : Go l y cc nL ret hh ext Z d bc bs pc lv (.int z :: .int x :: st) w := by
  intro p e R s m args below meth c D dA A ad0 N0 C H locs cells slots ad ls h1 h2 h3 h4 h5 h6 h7 h8
  exact lv_ishl C.1 C.2.1 hd (h p e R s m args below meth c D dA A ad0 N0 C H locs cells slots ad ls h1 h2 h3 h4 h5 h6 h7 (mm_O.cons mm_okv_int h8.tail.tail))
theorem go_ishr {x z : Int32} (hd : decode cc pc = .ok (.ishr, 1)) (h : Go l y cc nL ret hh ext Z d bc bs (pc + 1) lv (.int (x >>> (z &&& 31)) :: st) w) : Go l y cc nL ret hh ext Z d bc bs pc lv (.int z :: .int x :: st) w := by
  intro p e R s m args below meth c D dA A ad0 N0 C H locs cells slots ad ls h1 h2 h3 h4 h5 h6 h7 h8
  exact lv_ishr C.1 C.2.1 hd (h p e R s m args below meth c D dA A ad0 N0 C H locs cells slots ad ls h1 h2 h3 h4 h5 h6 h7 (mm_O.cons mm_okv_int h8.tail.tail))
theorem go_idiv {x z : Int32} (hd : decode cc pc = .ok (.idiv, 1)) (hne : ¬ z = 0) (h : Go l y cc nL ret hh ext Z d bc bs (pc + 1) lv (.int (x / z) :: st) w) : Go l y cc nL ret hh ext Z d bc bs pc lv (.int z :: .int x :: st) w := by
  intro p e R s m args below meth c D dA A ad0 N0 C H locs cells slots ad ls h1 h2 h3 h4 h5 h6 h7 h8
  exact lv_idiv C.1 C.2.1 hd hne (h p e R s m args below meth c D dA A ad0 N0 C H locs cells slots ad ls h1 h2 h3 h4 h5 h6 h7 (mm_O.cons mm_okv_int h8.tail.tail))
theorem go_irem {x z : Int32} (hd : decode cc pc = .ok (.irem, 1)) (hne : ¬ z = 0) (h : Go l y cc nL ret hh ext Z d bc bs (pc + 1) lv (.int (x - x / z * z) :: st) w) : Go l y cc nL ret hh ext Z d bc bs pc lv (.int z :: .int x :: st) w := by
  intro p e R s m args below meth c D dA A ad0 N0 C H locs cells slots ad ls h1 h2 h3 h4 h5 h6 h7 h8
  exact lv_irem C.1 C.2.1 hd hne (h p e R s m args below meth c D dA A ad0 N0 C H locs cells slots ad ls h1 h2 h3 h4 h5 h6 h7 (mm_O.cons mm_okv_int h8.tail.tail))
theorem go_ladd {x z : Int64} (hd : decode cc pc = .ok (.ladd, 1)) (h : Go l y cc nL ret hh ext Z d bc bs (pc + 1) lv (.long (x + z) :: st) w) : Go l y cc nL ret hh ext Z d bc bs pc lv (.long z :: .long x :: st) w := by
  intro p e R s m args below meth c D dA A ad0 N0 C H locs cells slots ad ls h1 h2 h3 h4 h5 h6 h7 h8
  exact lv_ladd C.1 C.2.1 hd (h p e R s m args below meth c D dA A ad0 N0 C H locs cells slots ad ls h1 h2 h3 h4 h5 h6 h7 (mm_O.cons mm_okv_long h8.tail.tail))
theorem go_lmul {x z : Int64} (hd : decode cc pc = .ok (.lmul, 1)) (h : Go l y cc nL ret hh ext Z d bc bs (pc + 1) lv (.long (x * z) :: st) w) : Go l y cc nL ret hh ext Z d bc bs pc lv (.long z :: .long x :: st) w := by
  intro p e R s m args below meth c D dA A ad0 N0 C H locs cells slots ad ls h1 h2 h3 h4 h5 h6 h7 h8
  exact lv_lmul C.1 C.2.1 hd (h p e R s m args below meth c D dA A ad0 N0 C H locs cells slots ad ls h1 h2 h3 h4 h5 h6 h7 (mm_O.cons mm_okv_long h8.tail.tail))
theorem go_ldiv {x z : Int64} (hd : decode cc pc = .ok (.ldiv, 1)) (hne : ¬ z = 0) (h : Go l y cc nL ret hh ext Z d bc bs (pc + 1) lv (.long (x / z) :: st) w) : Go l y cc nL ret hh ext Z d bc bs pc lv (.long z :: .long x :: st) w := by
  intro p e R s m args below meth c D dA A ad0 N0 C H locs cells slots ad ls h1 h2 h3 h4 h5 h6 h7 h8
  exact lv_ldiv C.1 C.2.1 hd hne (h p e R s m args below meth c D dA A ad0 N0 C H locs cells slots ad ls h1 h2 h3 h4 h5 h6 h7 (mm_O.cons mm_okv_long h8.tail.tail))
theorem go_lrem {x z : Int64} (hd : decode cc pc = .ok (.lrem, 1)) (hne : ¬ z = 0) (h : Go l y cc nL ret hh ext Z d bc bs (pc + 1) lv (.long (x - x / z * z) :: st) w) : Go l y cc nL ret hh ext Z d bc bs pc lv (.long z :: .long x :: st) w := by
  intro p e R s m args below meth c D dA A ad0 N0 C H locs cells slots ad ls h1 h2 h3 h4 h5 h6 h7 h8
  exact lv_lrem C.1 C.2.1 hd hne (h p e R s m args below meth c D dA A ad0 N0 C H locs cells slots ad ls h1 h2 h3 h4 h5 h6 h7 (mm_O.cons mm_okv_long h8.tail.tail))
theorem go_iushr {x z v : Int32} (hd : decode cc pc = .ok (.iushr, 1)) (hv : (x.toUInt32 >>> (z.toUInt32 &&& Int32.toUInt32 31)).toInt32 = v) (h : Go l y cc nL ret hh ext Z d bc bs (pc + 1) lv (.int v :: st) w) : Go l y cc nL ret hh ext Z d bc bs pc lv (.int z :: .int x :: st) w := by
  intro p e R s m args below meth c D dA A ad0 N0 C H locs cells slots ad ls h1 h2 h3 h4 h5 h6 h7 h8
  exact lv_iushr C.1 C.2.1 hd hv (h p e R s m args below meth c D dA A ad0 N0 C H locs cells slots ad ls h1 h2 h3 h4 h5 h6 h7 (mm_O.cons mm_okv_int h8.tail.tail))
theorem go_lcmp {x z : Int64} (hd : decode cc pc = .ok (.lcmp, 1)) (h : Go l y cc nL ret hh ext Z d bc bs (pc + 1) lv (.int (lg_cmp x z) :: st) w) : Go l y cc nL ret hh ext Z d bc bs pc lv (.long z :: .long x :: st) w := by
  intro p e R s m args below meth c D dA A ad0 N0 C H locs cells slots ad ls h1 h2 h3 h4 h5 h6 h7 h8
  exact W.lcmp C.1 C.2.1 hd (h p e R s m args below meth c D dA A ad0 N0 C H locs cells slots ad ls h1 h2 h3 h4 h5 h6 h7 (mm_O.cons mm_okv_int h8.tail.tail))
theorem go_ineg {x : Int32} (hd : decode cc pc = .ok (.ineg, 1)) (h : Go l y cc nL ret hh ext Z d bc bs (pc + 1) lv (.int (-x) :: st) w) : Go l y cc nL ret hh ext Z d bc bs pc lv (.int x :: st) w := by
  intro p e R s m args below meth c D dA A ad0 N0 C H locs cells slots ad ls h1 h2 h3 h4 h5 h6 h7 h8
  exact lv_ineg C.1 C.2.1 hd (h p e R s m args below meth c D dA A ad0 N0 C H locs cells slots ad ls h1 h2 h3 h4 h5 h6 h7 (mm_O.cons mm_okv_int h8.tail))
theorem go_i2l {x : Int32} (hd : decode cc pc = .ok (.i2l, 1)) (h : Go l y cc nL ret hh ext Z d bc bs (pc + 1) lv (.long x.toInt64 :: st) w) : Go l y cc nL ret hh ext Z d bc bs pc lv (.int x :: st) w := by
  intro p e R s m args below meth c D dA A ad0 N0 C H locs cells slots ad ls h1 h2 h3 h4 h5 h6 h7 h8
  exact lv_i2l C.1 C.2.1 hd rfl (h p e R s m args below meth c D dA A ad0 N0 C H locs cells slots ad ls h1 h2 h3 h4 h5 h6 h7 (mm_O.cons mm_okv_long h8.tail))
theorem go_l2i {x : Int64} (hd : decode cc pc = .ok (.l2i, 1)) (h : Go l y cc nL ret hh ext Z d bc bs (pc + 1) lv (.int x.toInt32 :: st) w) : Go l y cc nL ret hh ext Z d bc bs pc lv (.long x :: st) w := by
  intro p e R s m args below meth c D dA A ad0 N0 C H locs cells slots ad ls h1 h2 h3 h4 h5 h6 h7 h8
  exact lv_l2i C.1 C.2.1 hd rfl (h p e R s m args below meth c D dA A ad0 N0 C H locs cells slots ad ls h1 h2 h3 h4 h5 h6 h7 (mm_O.cons mm_okv_int h8.tail))
theorem go_i2c {x : Int32} (hd : decode cc pc = .ok (.i2c, 1)) (h : Go l y cc nL ret hh ext Z d bc bs (pc + 1) lv (.int (x.toUInt32 % 65536).toInt32 :: st) w) : Go l y cc nL ret hh ext Z d bc bs pc lv (.int x :: st) w := by
  intro p e R s m args below meth c D dA A ad0 N0 C H locs cells slots ad ls h1 h2 h3 h4 h5 h6 h7 h8
  exact lv_i2c C.1 C.2.1 hd rfl (h p e R s m args below meth c D dA A ad0 N0 C H locs cells slots ad ls h1 h2 h3 h4 h5 h6 h7 (mm_O.cons mm_okv_int h8.tail))
theorem go_dup {v : Value} (hd : decode cc pc = .ok (.dup, 1)) (hv : v.category = 1) (h : Go l y cc nL ret hh ext Z d bc bs (pc + 1) lv (v :: v :: st) w) : Go l y cc nL ret hh ext Z d bc bs pc lv (v :: st) w := by
  intro p e R s m args below meth c D dA A ad0 N0 C H locs cells slots ad ls h1 h2 h3 h4 h5 h6 h7 h8
  exact lv_dup C.1 C.2.1 hd ((mm_cat ad v).trans hv) (h p e R s m args below meth c D dA A ad0 N0 C H locs cells slots ad ls h1 h2 h3 h4 h5 h6 h7 (mm_O.cons h8.head h8))
theorem go_pop {v : Value} (hd : decode cc pc = .ok (.pop, 1)) (hv : v.category = 1) (h : Go l y cc nL ret hh ext Z d bc bs (pc + 1) lv st w) : Go l y cc nL ret hh ext Z d bc bs pc lv (v :: st) w := by
  intro p e R s m args below meth c D dA A ad0 N0 C H locs cells slots ad ls h1 h2 h3 h4 h5 h6 h7 h8
  exact lv_pop C.1 C.2.1 hd ((mm_cat ad v).trans hv) (h p e R s m args below meth c D dA A ad0 N0 C H locs cells slots ad ls h1 h2 h3 h4 h5 h6 h7 h8.tail)
theorem go_dup2 {v u : Value} (hd : decode cc pc = .ok (.dup2, 1)) (hv : v.category = 1) (hu : u.category = 1) (h : Go l y cc nL ret hh ext Z d bc bs (pc + 1) lv (v :: u :: v :: u :: st) w) : Go l y cc nL ret hh ext Z d bc bs pc lv (v :: u :: st) w := by
  intro p e R s m args below meth c D dA A ad0 N0 C H locs cells slots ad ls h1 h2 h3 h4 h5 h6 h7 h8
  exact lv_dup2_11 C.1 C.2.1 hd ((mm_cat ad v).trans hv) ((mm_cat ad u).trans hu) (h p e R s m args below meth c D dA A ad0 N0 C H locs cells slots ad ls h1 h2 h3 h4 h5 h6 h7 (mm_O.cons h8.head (mm_O.cons h8.tail.head h8)))
theorem go_if_eq {x : Int32} {off : Int} (tgt : Nat) (hd : decode cc pc = .ok (.ifCond .eq off, 3)) (ht : (pc : Int) + off = (tgt : Int)) (kt : x = 0 → Go l y cc nL ret hh ext Z d bc bs tgt lv st w) (kf : ¬ (x = 0) → Go l y cc nL ret hh ext Z d bc bs (pc + 3) lv st w) : Go l y cc nL ret hh ext Z d bc bs pc lv (.int x :: st) w := by
  intro p e R s m args below meth c D dA A ad0 N0 C H locs cells slots ad ls h1 h2 h3 h4 h5 h6 h7 h8
  exact lv_if_eq C.1 C.2.1 hd ht (fun q => (kt q p e R s m args below meth c D dA A ad0 N0 C H locs cells slots ad ls h1 h2 h3 h4 h5 h6 h7 h8.tail)) (fun q => (kf q p e R s m args below meth c D dA A ad0 N0 C H locs cells slots ad ls h1 h2 h3 h4 h5 h6 h7 h8.tail))
theorem go_icmp_eq {x z : Int32} {off : Int} (tgt : Nat) (hd : decode cc pc = .ok (.if_icmp .eq off, 3)) (ht : (pc : Int) + off = (tgt : Int)) (kt : x = z → Go l y cc nL ret hh ext Z d bc bs tgt lv st w) (kf : ¬ (x = z) → Go l y cc nL ret hh ext Z d bc bs (pc + 3) lv st w) : Go l y cc nL ret hh ext Z d bc bs pc lv (.int z :: .int x :: st) w := by
  intro p e R s m args below meth c D dA A ad0 N0 C H locs cells slots ad ls h1 h2 h3 h4 h5 h6 h7 h8
  exact lv_icmp_eq C.1 C.2.1 hd ht (fun q => (kt q p e R s m args below meth c D dA A ad0 N0 C H locs cells slots ad ls h1 h2 h3 h4 h5 h6 h7 h8.tail.tail)) (fun q => (kf q p e R s m args below meth c D dA A ad0 N0 C H locs cells slots ad ls h1 h2 h3 h4 h5 h6 h7 h8.tail.tail))
theorem go_if_ne {x : Int32} {off : Int} (tgt : Nat) (hd : decode cc pc = .ok (.ifCond .ne off, 3)) (ht : (pc : Int) + off = (tgt : Int)) (kt : x ≠ 0 → Go l y cc nL ret hh ext Z d bc bs tgt lv st w) (kf : x = 0 → Go l y cc nL ret hh ext Z d bc bs (pc + 3) lv st w) : Go l y cc nL ret hh ext Z d bc bs pc lv (.int x :: st) w := by
  intro p e R s m args below meth c D dA A ad0 N0 C H locs cells slots ad ls h1 h2 h3 h4 h5 h6 h7 h8
  exact lv_if_ne C.1 C.2.1 hd ht (fun q => (kt q p e R s m args below meth c D dA A ad0 N0 C H locs cells slots ad ls h1 h2 h3 h4 h5 h6 h7 h8.tail)) (fun q => (kf q p e R s m args below meth c D dA A ad0 N0 C H locs cells slots ad ls h1 h2 h3 h4 h5 h6 h7 h8.tail))
theorem go_icmp_ne {x z : Int32} {off : Int} (tgt : Nat) (hd : decode cc pc = .ok (.if_icmp .ne off, 3)) (ht : (pc : Int) + off = (tgt : Int)) (kt : x ≠ z → Go l y cc nL ret hh ext Z d bc bs tgt lv st w) (kf : x = z → Go l y cc nL ret hh ext Z d bc bs (pc + 3) lv st w) : Go l y cc nL ret hh ext Z d bc bs pc lv (.int z :: .int x :: st) w := by
  intro p e R s m args below meth c D dA A ad0 N0 C H locs cells slots ad ls h1 h2 h3 h4 h5 h6 h7 h8
  exact lv_icmp_ne C.1 C.2.1 hd ht (fun q => (kt q p e R s m args below meth c D dA A ad0 N0 C H locs cells slots ad ls h1 h2 h3 h4 h5 h6 h7 h8.tail.tail)) (fun q => (kf q p e R s m args below meth c D dA A ad0 N0 C H locs cells slots ad ls h1 h2 h3 h4 h5 h6 h7 h8.tail.tail))
theorem go_if_lt {x : Int32} {off : Int} (tgt : Nat) (hd : decode cc pc = .ok (.ifCond .lt off, 3)) (ht : (pc : Int) + off = (tgt : Int)) (kt : x < 0 → Go l y cc nL ret hh ext Z d bc bs tgt lv st w) (kf : ¬ (x < 0) → Go l y cc nL ret hh ext Z d bc bs (pc + 3) lv st w) : Go l y cc nL ret hh ext Z d bc bs pc lv (.int x :: st) w := by
  intro p e R s m args below meth c D dA A ad0 N0 C H locs cells slots ad ls h1 h2 h3 h4 h5 h6 h7 h8
  exact lv_if_lt C.1 C.2.1 hd ht (fun q => (kt q p e R s m args below meth c D dA A ad0 N0 C H locs cells slots ad ls h1 h2 h3 h4 h5 h6 h7 h8.tail)) (fun q => (kf q p e R s m args below meth c D dA A ad0 N0 C H locs cells slots ad ls h1 h2 h3 h4 h5 h6 h7 h8.tail))
theorem go_icmp_lt {x z : Int32} {off : Int} (tgt : Nat) (hd : decode cc pc = .ok (.if_icmp .lt off, 3)) (ht : (pc : Int) + off = (tgt : Int)) (kt : x < z → Go l y cc nL ret hh ext Z d bc bs tgt lv st w) (kf : ¬ (x < z) → Go l y cc nL ret hh ext Z d bc bs (pc + 3) lv st w) : Go l y cc nL ret hh ext Z d bc bs pc lv (.int z :: .int x :: st) w := by
  intro p e R s m args below meth c D dA A ad0 N0 C H locs cells slots ad ls h1 h2 h3 h4 h5 h6 h7 h8
  exact lv_icmp_lt C.1 C.2.1 hd ht (fun q => (kt q p e R s m args below meth c D dA A ad0 N0 C H locs cells slots ad ls h1 h2 h3 h4 h5 h6 h7 h8.tail.tail)) (fun q => (kf q p e R s m args below meth c D dA A ad0 N0 C H locs cells slots ad ls h1 h2 h3 h4 h5 h6 h7 h8.tail.tail))
theorem go_if_ge {x : Int32} {off : Int} (tgt : Nat) (hd : decode cc pc = .ok (.ifCond .ge off, 3)) (ht : (pc : Int) + off = (tgt : Int)) (kt : 0 ≤ x → Go l y cc nL ret hh ext Z d bc bs tgt lv st w) (kf : ¬ (0 ≤ x) → Go l y cc nL ret hh ext Z d bc bs (pc + 3) lv st w) : Go l y cc nL ret hh ext Z d bc bs pc lv (.int x :: st) w := by
  intro p e R s m args below meth c D dA A ad0 N0 C H locs cells slots ad ls h1 h2 h3 h4 h5 h6 h7 h8
  exact lv_if_ge C.1 C.2.1 hd ht (fun q => (kt q p e R s m args below meth c D dA A ad0 N0 C H locs cells slots ad ls h1 h2 h3 h4 h5 h6 h7 h8.tail)) (fun q => (kf q p e R s m args below meth c D dA A ad0 N0 C H locs cells slots ad ls h1 h2 h3 h4 h5 h6 h7 h8.tail))
theorem go_icmp_ge {x z : Int32} {off : Int} (tgt : Nat) (hd : decode cc pc = .ok (.if_icmp .ge off, 3)) (ht : (pc : Int) + off = (tgt : Int)) (kt : z ≤ x → Go l y cc nL ret hh ext Z d bc bs tgt lv st w) (kf : ¬ (z ≤ x) → Go l y cc nL ret hh ext Z d bc bs (pc + 3) lv st w) : Go l y cc nL ret hh ext Z d bc bs pc lv (.int z :: .int x :: st) w := by
  intro p e R s m args below meth c D dA A ad0 N0 C H locs cells slots ad ls h1 h2 h3 h4 h5 h6 h7 h8
  exact lv_icmp_ge C.1 C.2.1 hd ht (fun q => (kt q p e R s m args below meth c D dA A ad0 N0 C H locs cells slots ad ls h1 h2 h3 h4 h5 h6 h7 h8.tail.tail)) (fun q => (kf q p e R s m args below meth c D dA A ad0 N0 C H locs cells slots ad ls h1 h2 h3 h4 h5 h6 h7 h8.tail.tail))
theorem go_if_gt {x : Int32} {off : Int} (tgt : Nat) (hd : decode cc pc = .ok (.ifCond .gt off, 3)) (ht : (pc : Int) + off = (tgt : Int)) (kt : 0 < x → Go l y cc nL ret hh ext Z d bc bs tgt lv st w) (kf : ¬ (0 < x) → Go l y cc nL ret hh ext Z d bc bs (pc + 3) lv st w) : Go l y cc nL ret hh ext Z d bc bs pc lv (.int x :: st) w := by
  intro p e R s m args below meth c D dA A ad0 N0 C H locs cells slots ad ls h1 h2 h3 h4 h5 h6 h7 h8
  exact lv_if_gt C.1 C.2.1 hd ht (fun q => (kt q p e R s m args below meth c D dA A ad0 N0 C H locs cells slots ad ls h1 h2 h3 h4 h5 h6 h7 h8.tail)) (fun q => (kf q p e R s m args below meth c D dA A ad0 N0 C H locs cells slots ad ls h1 h2 h3 h4 h5 h6 h7 h8.tail))
theorem go_icmp_gt {x z : Int32} {off : Int} (tgt : Nat) (hd : decode cc pc = .ok (.if_icmp .gt off, 3)) (ht : (pc : Int) + off = (tgt : Int)) (kt : z < x → Go l y cc nL ret hh ext Z d bc bs tgt lv st w) (kf : ¬ (z < x) → Go l y cc nL ret hh ext Z d bc bs (pc + 3) lv st w) : Go l y cc nL ret hh ext Z d bc bs pc lv (.int z :: .int x :: st) w := by
  intro p e R s m args below meth c D dA A ad0 N0 C H locs cells slots ad ls h1 h2 h3 h4 h5 h6 h7 h8
  exact lv_icmp_gt C.1 C.2.1 hd ht (fun q => (kt q p e R s m args below meth c D dA A ad0 N0 C H locs cells slots ad ls h1 h2 h3 h4 h5 h6 h7 h8.tail.tail)) (fun q => (kf q p e R s m args below meth c D dA A ad0 N0 C H locs cells slots ad ls h1 h2 h3 h4 h5 h6 h7 h8.tail.tail))
theorem go_if_le {x : Int32} {off : Int} (tgt : Nat) (hd : decode cc pc = .ok (.ifCond .le off, 3)) (ht : (pc : Int) + off = (tgt : Int)) (kt : x ≤ 0 → Go l y cc nL ret hh ext Z d bc bs tgt lv st w) (kf : ¬ (x ≤ 0) → Go l y cc nL ret hh ext Z d bc bs (pc + 3) lv st w) : Go l y cc nL ret hh ext Z d bc bs pc lv (.int x :: st) w := by
  intro p e R s m args below meth c D dA A ad0 N0 C H locs cells slots ad ls h1 h2 h3 h4 h5 h6 h7 h8
  exact lv_if_le C.1 C.2.1 hd ht (fun q => (kt q p e R s m args below meth c D dA A ad0 N0 C H locs cells slots ad ls h1 h2 h3 h4 h5 h6 h7 h8.tail)) (fun q => (kf q p e R s m args below meth c D dA A ad0 N0 C H locs cells slots ad ls h1 h2 h3 h4 h5 h6 h7 h8.tail))
theorem go_icmp_le {x z : Int32} {off : Int} (tgt : Nat) (hd : decode cc pc = .ok (.if_icmp .le off, 3)) (ht : (pc : Int) + off = (tgt : Int)) (kt : x ≤ z → Go l y cc nL ret hh ext Z d bc bs tgt lv st w) (kf : ¬ (x ≤ z) → Go l y cc nL ret hh ext Z d bc bs (pc + 3) lv st w) : Go l y cc nL ret hh ext Z d bc bs pc lv (.int z :: .int x :: st) w := by
  intro p e R s m args below meth c D dA A ad0 N0 C H locs cells slots ad ls h1 h2 h3 h4 h5 h6 h7 h8
  exact lv_icmp_le C.1 C.2.1 hd ht (fun q => (kt q p e R s m args below meth c D dA A ad0 N0 C H locs cells slots ad ls h1 h2 h3 h4 h5 h6 h7 h8.tail.tail)) (fun q => (kf q p e R s m args below meth c D dA A ad0 N0 C H locs cells slots ad ls h1 h2 h3 h4 h5 h6 h7 h8.tail.tail))
theorem go_goto {off : Int} (tgt : Nat) (hd : decode cc pc = .ok (.goto off, 3)) (ht : (pc : Int) + off = (tgt : Int)) (h : Go l y cc nL ret hh ext Z d bc bs tgt lv st w) : Go l y cc nL ret hh ext Z d bc bs pc lv st w := by
  intro p e R s m args below meth c D dA A ad0 N0 C H locs cells slots ad ls h1 h2 h3 h4 h5 h6 h7 h8
  exact lv_goto C.1 C.2.1 hd ht (h p e R s m args below meth c D dA A ad0 N0 C H locs cells slots ad ls h1 h2 h3 h4 h5 h6 h7 h8)
theorem go_ifnull {off : Int} {a : Nat} (hd : decode cc pc = .ok (.ifnull off, 3)) (h : Go l y cc nL ret hh ext Z d bc bs (pc + 3) lv st w) : Go l y cc nL ret hh ext Z d bc bs pc lv (.ref a :: st) w := by
  intro p e R s m args below meth c D dA A ad0 N0 C H locs cells slots ad ls h1 h2 h3 h4 h5 h6 h7 h8
  exact lv_ifnull C.1 C.2.1 hd (h p e R s m args below meth c D dA A ad0 N0 C H locs cells slots ad ls h1 h2 h3 h4 h5 h6 h7 h8.tail)
theorem go_tblOut {dflt lo hi : Int} {offs : Array Int} {len : Nat} {x : Int32} (tgt : Nat) (hd : decode cc pc = .ok (.tableswitch dflt lo hi offs, len)) (hx : x.toInt < lo ∨ hi < x.toInt) (ht : (pc : Int) + dflt = (tgt : Int)) (h : Go l y cc nL ret hh ext Z d bc bs tgt lv st w) : Go l y cc nL ret hh ext Z d bc bs pc lv (.int x :: st) w := by
  intro p e R s m args below meth c D dA A ad0 N0 C H locs cells slots ad ls h1 h2 h3 h4 h5 h6 h7 h8
  exact lv_tableOut C.1 C.2.1 hd hx ht (h p e R s m args below meth c D dA A ad0 N0 C H locs cells slots ad ls h1 h2 h3 h4 h5 h6 h7 h8.tail)
theorem go_tblIn {dflt lo hi : Int} {offs : Array Int} {len : Nat} {x : Int32} {off : Int} (tgt : Nat) (hd : decode cc pc = .ok (.tableswitch dflt lo hi offs, len)) (hx1 : ¬ x.toInt < lo) (hx2 : ¬ hi < x.toInt) (ho : offs[(x.toInt - lo).toNat]? = some off) (ht : (pc : Int) + off = (tgt : Int)) (h : Go l y cc nL ret hh ext Z d bc bs tgt lv st w) : Go l y cc nL ret hh ext Z d bc bs pc lv (.int x :: st) w := by
  intro p e R s m args below meth c D dA A ad0 N0 C H locs cells slots ad ls h1 h2 h3 h4 h5 h6 h7 h8
  exact lv_tableIn C.1 C.2.1 hd hx1 hx2 ho ht (h p e R s m args below meth c D dA A ad0 N0 C H locs cells slots ad ls h1 h2 h3 h4 h5 h6 h7 h8.tail)
theorem go_lookup {dflt : Int} {ps : Array (Int × Int)} {len : Nat} {x : Int32} {off : Int} (tgt : Nat) (hd : decode cc pc = .ok (.lookupswitch dflt ps, len)) (hp : (ps.toList.zip (ps.toList.drop 1)).all (fun (a, next) => a.1 < next.1) = true) (ho : Op.lookupswitch.offset ps.toList dflt x.toInt = off) (ht : (pc : Int) + off = (tgt : Int)) (h : Go l y cc nL ret hh ext Z d bc bs tgt lv st w) : Go l y cc nL ret hh ext Z d bc bs pc lv (.int x :: st) w := by
  intro p e R s m args below meth c D dA A ad0 N0 C H locs cells slots ad ls h1 h2 h3 h4 h5 h6 h7 h8
  exact lv_lookup C.1 C.2.1 hd hp ho ht (h p e R s m args below meth c D dA A ad0 N0 C H locs cells slots ad ls h1 h2 h3 h4 h5 h6 h7 h8.tail)
end ROWS
