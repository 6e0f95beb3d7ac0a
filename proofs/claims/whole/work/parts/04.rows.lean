section ROWS
variable {sh : Shp} {mt : Mt} {pc : Nat} {al : List (Option Value)} {st : List Value} {μ : Mem} {Q : Int32 → Mem → Prop}
theorem a_iconst {n : Int} {v : Int32} (d : decode mt.2.1 pc = .ok (.iconst n, 1)) (hv : Int32.ofInt n = v) (k : AW sh mt (pc + 1) al (.int v :: st) μ Q) : AW sh mt pc al st μ Q :=
  fun l σ cA D A p e s m args below meth c H locs ls X R S V => lv_iconst X.1 X.2.1 d hv (k l σ cA D A p e s m args below meth c H locs ls X R S V)
theorem a_bipush {n : Int} {v : Int32} (d : decode mt.2.1 pc = .ok (.bipush n, 2)) (hv : (Int8.ofInt n).toInt32 = v) (k : AW sh mt (pc + 2) al (.int v :: st) μ Q) : AW sh mt pc al st μ Q :=
  fun l σ cA D A p e s m args below meth c H locs ls X R S V => lv_bipush X.1 X.2.1 d hv (k l σ cA D A p e s m args below meth c H locs ls X R S V)
theorem a_sipush {n : Int} {v : Int32} (d : decode mt.2.1 pc = .ok (.sipush n, 3)) (hv : (Int16.ofInt n).toInt32 = v) (k : AW sh mt (pc + 3) al (.int v :: st) μ Q) : AW sh mt pc al st μ Q :=
  fun l σ cA D A p e s m args below meth c H locs ls X R S V => lv_sipush X.1 X.2.1 d hv (k l σ cA D A p e s m args below meth c H locs ls X R S V)
theorem a_lconst {n : Fin 2} {v : Int64} (d : decode mt.2.1 pc = .ok (.lconst n, 1)) (hv : Int64.ofNat (n : Nat) = v) (k : AW sh mt (pc + 1) al (.long v :: st) μ Q) : AW sh mt pc al st μ Q :=
  fun l σ cA D A p e s m args below meth c H locs ls X R S V => lv_lconst X.1 X.2.1 d hv (k l σ cA D A p e s m args below meth c H locs ls X R S V)
theorem a_ldc2 {index : Nat} {v : Int64} (d : decode mt.2.1 pc = .ok (.ldc2_w index, 3)) (hw : Cond.constantLong mt.1.cls index v ∈ lw_tbl) (k : AW sh mt (pc + 3) al (.long v :: st) μ Q) : AW sh mt pc al st μ Q :=
  fun l σ cA D A p e s m args below meth c H locs ls X R S V => lv_ldc2 X.1 X.2.1 X.2.2.2.2.2.1 (X.2.2.2.2.2.2.2.use hw rfl args) d (k l σ cA D A p e s m args below meth c H locs ls X R S V)
theorem a_ldcw {index : Nat} {v : Int32} (d : decode mt.2.1 pc = .ok (.ldc_w index, 3)) (hw : Cond.constant mt.1.cls index v ∈ lw_tbl) (k : AW sh mt (pc + 3) al (.int v :: st) μ Q) : AW sh mt pc al st μ Q :=
  fun l σ cA D A p e s m args below meth c H locs ls X R S V => lv_ldcw X.1 X.2.1 X.2.2.2.2.2.1 (X.2.2.2.2.2.2.2.use hw rfl args) d (k l σ cA D A p e s m args below meth c H locs ls X R S V)
theorem a_iload_n {n : Fin 4} {i : Nat} {x : Int32} (d : decode mt.2.1 pc = .ok (.iload_n n, 1)) (hi : (n : Nat) = i) (h : al[i]? = some (some (.int x))) (k : AW sh mt (pc + 1) al (.int x :: st) μ Q) : AW sh mt pc al st μ Q :=
  fun l σ cA D A p e s m args below meth c H locs ls X R S V => lv_iload_n X.1 X.2.1 d hi (V.get h) (k l σ cA D A p e s m args below meth c H locs ls X R S V)
theorem a_iload {i : Nat} {x : Int32} (d : decode mt.2.1 pc = .ok (.iload i, 2)) (h : al[i]? = some (some (.int x))) (k : AW sh mt (pc + 2) al (.int x :: st) μ Q) : AW sh mt pc al st μ Q :=
  fun l σ cA D A p e s m args below meth c H locs ls X R S V => lv_iload X.1 X.2.1 d (V.get h) (k l σ cA D A p e s m args below meth c H locs ls X R S V)
theorem a_lload_n {n : Fin 4} {i : Nat} {x : Int64} (d : decode mt.2.1 pc = .ok (.lload_n n, 1)) (hi : (n : Nat) = i) (h : al[i]? = some (some (.long x))) (k : AW sh mt (pc + 1) al (.long x :: st) μ Q) : AW sh mt pc al st μ Q :=
  fun l σ cA D A p e s m args below meth c H locs ls X R S V => lv_lload_n X.1 X.2.1 d hi (V.get h) (k l σ cA D A p e s m args below meth c H locs ls X R S V)
theorem a_lload {i : Nat} {x : Int64} (d : decode mt.2.1 pc = .ok (.lload i, 2)) (h : al[i]? = some (some (.long x))) (k : AW sh mt (pc + 2) al (.long x :: st) μ Q) : AW sh mt pc al st μ Q :=
  fun l σ cA D A p e s m args below meth c H locs ls X R S V => lv_lload X.1 X.2.1 d (V.get h) (k l σ cA D A p e s m args below meth c H locs ls X R S V)
theorem a_aload_n {n : Fin 4} {i : Nat} {x : Nat} (d : decode mt.2.1 pc = .ok (.aload_n n, 1)) (hi : (n : Nat) = i) (h : al[i]? = some (some (.ref x))) (k : AW sh mt (pc + 1) al (.ref x :: st) μ Q) : AW sh mt pc al st μ Q :=
  fun l σ cA D A p e s m args below meth c H locs ls X R S V => lv_aload_n X.1 X.2.1 d hi (V.get h) (k l σ cA D A p e s m args below meth c H locs ls X R S V)
theorem a_aload {i : Nat} {x : Nat} (d : decode mt.2.1 pc = .ok (.aload i, 2)) (h : al[i]? = some (some (.ref x))) (k : AW sh mt (pc + 2) al (.ref x :: st) μ Q) : AW sh mt pc al st μ Q :=
  fun l σ cA D A p e s m args below meth c H locs ls X R S V => lv_aload X.1 X.2.1 d (V.get h) (k l σ cA D A p e s m args below meth c H locs ls X R S V)
theorem a_istore_n {n : Fin 4} {i : Nat} {x : Int32} {al' : List (Option Value)} (d : decode mt.2.1 pc = .ok (.istore_n n, 1)) (hi : (n : Nat) = i) (hn : i < mt.2.2.1) (hl : nolong al i = true) (he : al.set i (some (.int x)) = al') (k : AW sh mt (pc + 1) al' st μ Q) : AW sh mt pc al (.int x :: st) μ Q :=
  fun l σ cA D A p e s m args below meth c H locs ls X R S V => lv_istore_n X.1 X.2.1 d hi V hn rfl (fun ls' h' => k l σ cA D A p e s m args below meth c H locs ls' X R S (he ▸ LV.set1 (v := .int x) hl h'))
theorem a_istore {i : Nat} {x : Int32} {al' : List (Option Value)} (d : decode mt.2.1 pc = .ok (.istore i, 2)) (hn : i < mt.2.2.1) (hl : nolong al i = true) (he : al.set i (some (.int x)) = al') (k : AW sh mt (pc + 2) al' st μ Q) : AW sh mt pc al (.int x :: st) μ Q :=
  fun l σ cA D A p e s m args below meth c H locs ls X R S V => lv_istore X.1 X.2.1 d V hn rfl (fun ls' h' => k l σ cA D A p e s m args below meth c H locs ls' X R S (he ▸ LV.set1 (v := .int x) hl h'))
theorem a_astore_n {n : Fin 4} {i : Nat} {x : Nat} {al' : List (Option Value)} (d : decode mt.2.1 pc = .ok (.astore_n n, 1)) (hi : (n : Nat) = i) (hn : i < mt.2.2.1) (hl : nolong al i = true) (he : al.set i (some (.ref x)) = al') (k : AW sh mt (pc + 1) al' st μ Q) : AW sh mt pc al (.ref x :: st) μ Q :=
  fun l σ cA D A p e s m args below meth c H locs ls X R S V => lv_astore_n X.1 X.2.1 d hi V hn rfl (fun ls' h' => k l σ cA D A p e s m args below meth c H locs ls' X R S (he ▸ LV.set1 (v := .ref x) hl h'))
theorem a_astore {i : Nat} {x : Nat} {al' : List (Option Value)} (d : decode mt.2.1 pc = .ok (.astore i, 2)) (hn : i < mt.2.2.1) (hl : nolong al i = true) (he : al.set i (some (.ref x)) = al') (k : AW sh mt (pc + 2) al' st μ Q) : AW sh mt pc al (.ref x :: st) μ Q :=
  fun l σ cA D A p e s m args below meth c H locs ls X R S V => lv_astore X.1 X.2.1 d V hn rfl (fun ls' h' => k l σ cA D A p e s m args below meth c H locs ls' X R S (he ▸ LV.set1 (v := .ref x) hl h'))
theorem a_lstore_n {n : Fin 4} {i : Nat} {x : Int64} {al' : List (Option Value)} (d : decode mt.2.1 pc = .ok (.lstore_n n, 1)) (hi : (n : Nat) = i) (hn : i + 1 < mt.2.2.1) (hl : nolong al i = true) (he : (al.set i (some (.long x))).set (i + 1) none = al') (k : AW sh mt (pc + 1) al' st μ Q) : AW sh mt pc al (.long x :: st) μ Q :=
  fun l σ cA D A p e s m args below meth c H locs ls X R S V => lv_lstore_n X.1 X.2.1 d hi V hn rfl (fun ls' h' => k l σ cA D A p e s m args below meth c H locs ls' X R S (he ▸ LV.set2 (v := .long x) hl h'))
theorem a_lstore {i : Nat} {x : Int64} {al' : List (Option Value)} (d : decode mt.2.1 pc = .ok (.lstore i, 2)) (hn : i + 1 < mt.2.2.1) (hl : nolong al i = true) (he : (al.set i (some (.long x))).set (i + 1) none = al') (k : AW sh mt (pc + 2) al' st μ Q) : AW sh mt pc al (.long x :: st) μ Q :=
  fun l σ cA D A p e s m args below meth c H locs ls X R S V => lv_lstore X.1 X.2.1 d V hn rfl (fun ls' h' => k l σ cA D A p e s m args below meth c H locs ls' X R S (he ▸ LV.set2 (v := .long x) hl h'))
theorem a_iinc {i : Nat} {n : Int} {x v : Int32} {al' : List (Option Value)} (d : decode mt.2.1 pc = .ok (.iinc i n, 3)) (h : al[i]? = some (some (.int x))) (hv : x + Int32.ofInt n = v) (hn : i < mt.2.2.1) (hl : nolong al i = true) (he : al.set i (some (.int v)) = al') (k : AW sh mt (pc + 3) al' st μ Q) : AW sh mt pc al st μ Q := by
  intro l σ cA D A p e s m args below meth c H locs ls X R S V
  obtain ⟨j, hj⟩ := List.getElem?_of_mem ((mem_toL (σ := σ) (al := al) (q := (i, .int x))).mpr ⟨.int x, h, rfl⟩)
  exact lv_iinc X.1 X.2.1 d V hj hv hn rfl (fun ls' h' => k l σ cA D A p e s m args below meth c H locs ls' X R S (he ▸ LV.set1 (v := .int v) hl h'))
theorem a_iadd {x y : Int32} (d : decode mt.2.1 pc = .ok (.iadd, 1)) (k : AW sh mt (pc + 1) al (.int (x + y) :: st) μ Q) : AW sh mt pc al (.int y :: .int x :: st) μ Q :=
  fun l σ cA D A p e s m args below meth c H locs ls X R S V => lv_iadd X.1 X.2.1 d (k l σ cA D A p e s m args below meth c H locs ls X R S V)
theorem a_isub {x y : Int32} (d : decode mt.2.1 pc = .ok (.isub, 1)) (k : AW sh mt (pc + 1) al (.int (x - y) :: st) μ Q) : AW sh mt pc al (.int y :: .int x :: st) μ Q :=
  fun l σ cA D A p e s m args below meth c H locs ls X R S V => lv_isub X.1 X.2.1 d (k l σ cA D A p e s m args below meth c H locs ls X R S V)
theorem a_imul {x y : Int32} (d : decode mt.2.1 pc = .ok (.imul, 1)) (k : AW sh mt (pc + 1) al (.int (x * y) :: st) μ Q) : AW sh mt pc al (.int y :: .int x :: st) μ Q :=
  fun l σ cA D A p e s m args below meth c H locs ls X R S V => lv_imul X.1 X.2.1 d (k l σ cA D A p e s m args below meth c H locs ls X R S V)
theorem a_iand {x y : Int32} (d : decode mt.2.1 pc = .ok (.iand, 1)) (k : AW sh mt (pc + 1) al (.int (x &&& y) :: st) μ Q) : AW sh mt pc al (.int y :: .int x :: st) μ Q :=
  fun l σ cA D A p e s m args below meth c H locs ls X R S V => lv_iand X.1 X.2.1 d (k l σ cA D A p e s m args below meth c H locs ls X R S V)
theorem a_ior {x y : Int32} (d : decode mt.2.1 pc = .ok (.ior, 1)) (k : AW sh mt (pc + 1) al (.int (x ||| y) :: st) μ Q) : AW sh mt pc al (.int y :: .int x :: st) μ Q :=
  fun l σ cA D A p e s m args below meth c H locs ls X R S V => lv_ior X.1 X.2.1 d (k l σ cA D A p e s m args below meth c H locs ls X R S V)
theorem a_ixor {x y : Int32} (d : decode mt.2.1 pc = .ok (.ixor, 1)) (k : AW sh mt (pc + 1) al (.int (x ^^^ y) :: st) μ Q) : AW sh mt pc al (.int y :: .int x :: st) μ Q :=
  fun l σ cA D A p e s m args below meth c H locs ls X R S V => lv_ixor X.1 X.2.1 d (k l σ cA D A p e s m args below meth c H locs ls X R S V)
theorem a_irem {x y : Int32} (d : decode mt.2.1 pc = .ok (.irem, 1)) (hne : ¬ y = 0) (k : AW sh mt (pc + 1) al (.int (x - x / y * y) :: st) μ Q) : AW sh mt pc al (.int y :: .int x :: st) μ Q :=
  fun l σ cA D A p e s m args below meth c H locs ls X R S V => lv_irem X.1 X.2.1 d hne (k l σ cA D A p e s m args below meth c H locs ls X R S V)
theorem a_ladd {x y : Int64} (d : decode mt.2.1 pc = .ok (.ladd, 1)) (k : AW sh mt (pc + 1) al (.long (x + y) :: st) μ Q) : AW sh mt pc al (.long y :: .long x :: st) μ Q :=
  fun l σ cA D A p e s m args below meth c H locs ls X R S V => lv_ladd X.1 X.2.1 d (k l σ cA D A p e s m args below meth c H locs ls X R S V)
theorem a_lmul {x y : Int64} (d : decode mt.2.1 pc = .ok (.lmul, 1)) (k : AW sh mt (pc + 1) al (.long (x * y) :: st) μ Q) : AW sh mt pc al (.long y :: .long x :: st) μ Q :=
  fun l σ cA D A p e s m args below meth c H locs ls X R S V => lv_lmul X.1 X.2.1 d (k l σ cA D A p e s m args below meth c H locs ls X R S V)
theorem a_lrem {x y : Int64} (d : decode mt.2.1 pc = .ok (.lrem, 1)) (hne : ¬ y = 0) (k : AW sh mt (pc + 1) al (.long (x - x / y * y) :: st) μ Q) : AW sh mt pc al (.long y :: .long x :: st) μ Q :=
  fun l σ cA D A p e s m args below meth c H locs ls X R S V => lv_lrem X.1 X.2.1 d hne (k l σ cA D A p e s m args below meth c H locs ls X R S V)
theorem a_ishl {x y : Int32} (d : decode mt.2.1 pc = .ok (.ishl, 1)) (k : AW sh mt (pc + 1) al (.int (x <<< (y &&& 31)) :: st) μ Q) : AW sh mt pc al (.int y :: .int x :: st) μ Q :=
  fun l σ cA D A p e s m args below meth c H locs ls X R S V => lv_ishl X.1 X.2.1 d (k l σ cA D A p e s m args below meth c H locs ls X R S V)
theorem a_ishr {x y : Int32} (d : decode mt.2.1 pc = .ok (.ishr, 1)) (k : AW sh mt (pc + 1) al (.int (x >>> (y &&& 31)) :: st) μ Q) : AW sh mt pc al (.int y :: .int x :: st) μ Q :=
  fun l σ cA D A p e s m args below meth c H locs ls X R S V => lv_ishr X.1 X.2.1 d (k l σ cA D A p e s m args below meth c H locs ls X R S V)
theorem a_iushr {x y v : Int32} (d : decode mt.2.1 pc = .ok (.iushr, 1)) (hv : (x.toUInt32 >>> (y.toUInt32 &&& Int32.toUInt32 31)).toInt32 = v) (k : AW sh mt (pc + 1) al (.int v :: st) μ Q) : AW sh mt pc al (.int y :: .int x :: st) μ Q :=
  fun l σ cA D A p e s m args below meth c H locs ls X R S V => lv_iushr X.1 X.2.1 d hv (k l σ cA D A p e s m args below meth c H locs ls X R S V)
theorem a_i2l {x : Int32} (d : decode mt.2.1 pc = .ok (.i2l, 1)) (k : AW sh mt (pc + 1) al (.long x.toInt64 :: st) μ Q) : AW sh mt pc al (.int x :: st) μ Q :=
  fun l σ cA D A p e s m args below meth c H locs ls X R S V => lv_i2l X.1 X.2.1 d rfl (k l σ cA D A p e s m args below meth c H locs ls X R S V)
theorem a_l2i {x : Int64} (d : decode mt.2.1 pc = .ok (.l2i, 1)) (k : AW sh mt (pc + 1) al (.int x.toInt32 :: st) μ Q) : AW sh mt pc al (.long x :: st) μ Q :=
  fun l σ cA D A p e s m args below meth c H locs ls X R S V => lv_l2i X.1 X.2.1 d rfl (k l σ cA D A p e s m args below meth c H locs ls X R S V)
theorem a_i2c {x : Int32} (d : decode mt.2.1 pc = .ok (.i2c, 1)) (k : AW sh mt (pc + 1) al (.int (x.toUInt32 % 65536).toInt32 :: st) μ Q) : AW sh mt pc al (.int x :: st) μ Q :=
  fun l σ cA D A p e s m args below meth c H locs ls X R S V => lv_i2c X.1 X.2.1 d rfl (k l σ cA D A p e s m args below meth c H locs ls X R S V)
theorem a_dup {v : Value} (d : decode mt.2.1 pc = .ok (.dup, 1)) (hv : v.category = 1) (k : AW sh mt (pc + 1) al (v :: v :: st) μ Q) : AW sh mt pc al (v :: st) μ Q :=
  fun l σ cA D A p e s m args below meth c H locs ls X R S V => lv_dup X.1 X.2.1 d (by rw [cvl_cat]; exact hv) (k l σ cA D A p e s m args below meth c H locs ls X R S V)
theorem a_dup2 {v w : Value} (d : decode mt.2.1 pc = .ok (.dup2, 1)) (hv : v.category = 1) (hw : w.category = 1) (k : AW sh mt (pc + 1) al (v :: w :: v :: w :: st) μ Q) : AW sh mt pc al (v :: w :: st) μ Q :=
  fun l σ cA D A p e s m args below meth c H locs ls X R S V => lv_dup2_11 X.1 X.2.1 d (by rw [cvl_cat]; exact hv) (by rw [cvl_cat]; exact hw) (k l σ cA D A p e s m args below meth c H locs ls X R S V)
theorem a_pop {v : Value} (d : decode mt.2.1 pc = .ok (.pop, 1)) (hv : v.category = 1) (k : AW sh mt (pc + 1) al st μ Q) : AW sh mt pc al (v :: st) μ Q :=
  fun l σ cA D A p e s m args below meth c H locs ls X R S V => lv_pop X.1 X.2.1 d (by rw [cvl_cat]; exact hv) (k l σ cA D A p e s m args below meth c H locs ls X R S V)
theorem a_goto {off : Int} {tgt : Nat} (d : decode mt.2.1 pc = .ok (.goto off, 3)) (ht : (pc : Int) + off = (tgt : Int)) (k : AW sh mt tgt al st μ Q) : AW sh mt pc al st μ Q :=
  fun l σ cA D A p e s m args below meth c H locs ls X R S V => lv_goto X.1 X.2.1 d ht (k l σ cA D A p e s m args below meth c H locs ls X R S V)
theorem a_if_eq {x : Int32} {off : Int} {tgt : Nat} (d : decode mt.2.1 pc = .ok (.ifCond .eq off, 3)) (ht : (pc : Int) + off = (tgt : Int)) (kt : x = 0 → AW sh mt tgt al st μ Q) (kf : ¬ x = 0 → AW sh mt (pc + 3) al st μ Q) : AW sh mt pc al (.int x :: st) μ Q :=
  fun l σ cA D A p e s m args below meth c H locs ls X R S V => lv_if_eq X.1 X.2.1 d ht (fun h => kt h l σ cA D A p e s m args below meth c H locs ls X R S V) (fun h => kf h l σ cA D A p e s m args below meth c H locs ls X R S V)
theorem a_if_ne {x : Int32} {off : Int} {tgt : Nat} (d : decode mt.2.1 pc = .ok (.ifCond .ne off, 3)) (ht : (pc : Int) + off = (tgt : Int)) (kt : ¬ x = 0 → AW sh mt tgt al st μ Q) (kf : x = 0 → AW sh mt (pc + 3) al st μ Q) : AW sh mt pc al (.int x :: st) μ Q :=
  fun l σ cA D A p e s m args below meth c H locs ls X R S V => lv_if_ne X.1 X.2.1 d ht (fun h => kt h l σ cA D A p e s m args below meth c H locs ls X R S V) (fun h => kf h l σ cA D A p e s m args below meth c H locs ls X R S V)
theorem a_if_lt {x : Int32} {off : Int} {tgt : Nat} (d : decode mt.2.1 pc = .ok (.ifCond .lt off, 3)) (ht : (pc : Int) + off = (tgt : Int)) (kt : x < 0 → AW sh mt tgt al st μ Q) (kf : ¬ x < 0 → AW sh mt (pc + 3) al st μ Q) : AW sh mt pc al (.int x :: st) μ Q :=
  fun l σ cA D A p e s m args below meth c H locs ls X R S V => lv_if_lt X.1 X.2.1 d ht (fun h => kt h l σ cA D A p e s m args below meth c H locs ls X R S V) (fun h => kf h l σ cA D A p e s m args below meth c H locs ls X R S V)
theorem a_if_ge {x : Int32} {off : Int} {tgt : Nat} (d : decode mt.2.1 pc = .ok (.ifCond .ge off, 3)) (ht : (pc : Int) + off = (tgt : Int)) (kt : 0 ≤ x → AW sh mt tgt al st μ Q) (kf : ¬ 0 ≤ x → AW sh mt (pc + 3) al st μ Q) : AW sh mt pc al (.int x :: st) μ Q :=
  fun l σ cA D A p e s m args below meth c H locs ls X R S V => lv_if_ge X.1 X.2.1 d ht (fun h => kt h l σ cA D A p e s m args below meth c H locs ls X R S V) (fun h => kf h l σ cA D A p e s m args below meth c H locs ls X R S V)
theorem a_if_gt {x : Int32} {off : Int} {tgt : Nat} (d : decode mt.2.1 pc = .ok (.ifCond .gt off, 3)) (ht : (pc : Int) + off = (tgt : Int)) (kt : 0 < x → AW sh mt tgt al st μ Q) (kf : ¬ 0 < x → AW sh mt (pc + 3) al st μ Q) : AW sh mt pc al (.int x :: st) μ Q :=
  fun l σ cA D A p e s m args below meth c H locs ls X R S V => lv_if_gt X.1 X.2.1 d ht (fun h => kt h l σ cA D A p e s m args below meth c H locs ls X R S V) (fun h => kf h l σ cA D A p e s m args below meth c H locs ls X R S V)
theorem a_if_le {x : Int32} {off : Int} {tgt : Nat} (d : decode mt.2.1 pc = .ok (.ifCond .le off, 3)) (ht : (pc : Int) + off = (tgt : Int)) (kt : x ≤ 0 → AW sh mt tgt al st μ Q) (kf : ¬ x ≤ 0 → AW sh mt (pc + 3) al st μ Q) : AW sh mt pc al (.int x :: st) μ Q :=
  fun l σ cA D A p e s m args below meth c H locs ls X R S V => lv_if_le X.1 X.2.1 d ht (fun h => kt h l σ cA D A p e s m args below meth c H locs ls X R S V) (fun h => kf h l σ cA D A p e s m args below meth c H locs ls X R S V)
theorem a_icmp_eq {x y : Int32} {off : Int} {tgt : Nat} (d : decode mt.2.1 pc = .ok (.if_icmp .eq off, 3)) (ht : (pc : Int) + off = (tgt : Int)) (kt : x = y → AW sh mt tgt al st μ Q) (kf : ¬ x = y → AW sh mt (pc + 3) al st μ Q) : AW sh mt pc al (.int y :: .int x :: st) μ Q :=
  fun l σ cA D A p e s m args below meth c H locs ls X R S V => lv_icmp_eq X.1 X.2.1 d ht (fun h => kt h l σ cA D A p e s m args below meth c H locs ls X R S V) (fun h => kf h l σ cA D A p e s m args below meth c H locs ls X R S V)
theorem a_icmp_ne {x y : Int32} {off : Int} {tgt : Nat} (d : decode mt.2.1 pc = .ok (.if_icmp .ne off, 3)) (ht : (pc : Int) + off = (tgt : Int)) (kt : ¬ x = y → AW sh mt tgt al st μ Q) (kf : x = y → AW sh mt (pc + 3) al st μ Q) : AW sh mt pc al (.int y :: .int x :: st) μ Q :=
  fun l σ cA D A p e s m args below meth c H locs ls X R S V => lv_icmp_ne X.1 X.2.1 d ht (fun h => kt h l σ cA D A p e s m args below meth c H locs ls X R S V) (fun h => kf h l σ cA D A p e s m args below meth c H locs ls X R S V)
theorem a_icmp_lt {x y : Int32} {off : Int} {tgt : Nat} (d : decode mt.2.1 pc = .ok (.if_icmp .lt off, 3)) (ht : (pc : Int) + off = (tgt : Int)) (kt : x < y → AW sh mt tgt al st μ Q) (kf : ¬ x < y → AW sh mt (pc + 3) al st μ Q) : AW sh mt pc al (.int y :: .int x :: st) μ Q :=
  fun l σ cA D A p e s m args below meth c H locs ls X R S V => lv_icmp_lt X.1 X.2.1 d ht (fun h => kt h l σ cA D A p e s m args below meth c H locs ls X R S V) (fun h => kf h l σ cA D A p e s m args below meth c H locs ls X R S V)
theorem a_icmp_ge {x y : Int32} {off : Int} {tgt : Nat} (d : decode mt.2.1 pc = .ok (.if_icmp .ge off, 3)) (ht : (pc : Int) + off = (tgt : Int)) (kt : y ≤ x → AW sh mt tgt al st μ Q) (kf : ¬ y ≤ x → AW sh mt (pc + 3) al st μ Q) : AW sh mt pc al (.int y :: .int x :: st) μ Q :=
  fun l σ cA D A p e s m args below meth c H locs ls X R S V => lv_icmp_ge X.1 X.2.1 d ht (fun h => kt h l σ cA D A p e s m args below meth c H locs ls X R S V) (fun h => kf h l σ cA D A p e s m args below meth c H locs ls X R S V)
theorem a_icmp_gt {x y : Int32} {off : Int} {tgt : Nat} (d : decode mt.2.1 pc = .ok (.if_icmp .gt off, 3)) (ht : (pc : Int) + off = (tgt : Int)) (kt : y < x → AW sh mt tgt al st μ Q) (kf : ¬ y < x → AW sh mt (pc + 3) al st μ Q) : AW sh mt pc al (.int y :: .int x :: st) μ Q :=
  fun l σ cA D A p e s m args below meth c H locs ls X R S V => lv_icmp_gt X.1 X.2.1 d ht (fun h => kt h l σ cA D A p e s m args below meth c H locs ls X R S V) (fun h => kf h l σ cA D A p e s m args below meth c H locs ls X R S V)
theorem a_icmp_le {x y : Int32} {off : Int} {tgt : Nat} (d : decode mt.2.1 pc = .ok (.if_icmp .le off, 3)) (ht : (pc : Int) + off = (tgt : Int)) (kt : x ≤ y → AW sh mt tgt al st μ Q) (kf : ¬ x ≤ y → AW sh mt (pc + 3) al st μ Q) : AW sh mt pc al (.int y :: .int x :: st) μ Q :=
  fun l σ cA D A p e s m args below meth c H locs ls X R S V => lv_icmp_le X.1 X.2.1 d ht (fun h => kt h l σ cA D A p e s m args below meth c H locs ls X R S V) (fun h => kf h l σ cA D A p e s m args below meth c H locs ls X R S V)
theorem a_tableIn {dflt lo hi : Int} {offs : Array Int} {len : Nat} {x : Int32} {off : Int} {tgt : Nat} (d : decode mt.2.1 pc = .ok (.tableswitch dflt lo hi offs, len)) (h1 : ¬ x.toInt < lo) (h2 : ¬ hi < x.toInt) (ho : offs[(x.toInt - lo).toNat]? = some off) (ht : (pc : Int) + off = (tgt : Int)) (k : AW sh mt tgt al st μ Q) : AW sh mt pc al (.int x :: st) μ Q :=
  fun l σ cA D A p e s m args below meth c H locs ls X R S V => lv_tableIn X.1 X.2.1 d h1 h2 ho ht (k l σ cA D A p e s m args below meth c H locs ls X R S V)
theorem a_tableOut {dflt lo hi : Int} {offs : Array Int} {len : Nat} {x : Int32} {tgt : Nat} (d : decode mt.2.1 pc = .ok (.tableswitch dflt lo hi offs, len)) (h : x.toInt < lo ∨ hi < x.toInt) (ht : (pc : Int) + dflt = (tgt : Int)) (k : AW sh mt tgt al st μ Q) : AW sh mt pc al (.int x :: st) μ Q :=
  fun l σ cA D A p e s m args below meth c H locs ls X R S V => lv_tableOut X.1 X.2.1 d h ht (k l σ cA D A p e s m args below meth c H locs ls X R S V)
theorem a_lookup {dflt : Int} {ps : Array (Int × Int)} {len : Nat} {x : Int32} {off : Int} {tgt : Nat} (d : decode mt.2.1 pc = .ok (.lookupswitch dflt ps, len)) (hp : (ps.toList.zip (ps.toList.drop 1)).all (fun (a, next) => a.1 < next.1) = true) (ho : Op.lookupswitch.offset ps.toList dflt x.toInt = off) (ht : (pc : Int) + off = (tgt : Int)) (k : AW sh mt tgt al st μ Q) : AW sh mt pc al (.int x :: st) μ Q :=
  fun l σ cA D A p e s m args below meth c H locs ls X R S V => lv_lookup X.1 X.2.1 d hp ho ht (k l σ cA D A p e s m args below meth c H locs ls X R S V)
theorem a_iret {v : Int32} (hr : mt.2.2.2.1 = some .int) (d : decode mt.2.1 pc = .ok (.ireturn, 1)) (k : Q v μ) : AW sh mt pc al [.int v] μ Q := by
  intro l σ cA D A p e s m args below meth c H locs ls X R S V
  have hret : meth.sig.returnType = some .int := X.2.2.2.1.trans hr
  have hlocks : meth.locks = false := X.2.2.2.2.1
  refine W.iret X.1 X.2.1 hret (fun t ht hW => ?_) S.2.2 d
  rw [hr]
  exact ⟨⟨v, μ, rfl, k, by show Rp sh σ cA D A μ t.heap; rw [ht]; exact R⟩, S.F ht⟩
theorem a_zret {v : Int32} (hr : mt.2.2.2.1 = some .boolean) (hv : narrow .boolean (.int v) = .int v) (d : decode mt.2.1 pc = .ok (.ireturn, 1)) (k : Q v μ) : AW sh mt pc al [.int v] μ Q := by
  intro l σ cA D A p e s m args below meth c H locs ls X R S V
  have hret : meth.sig.returnType = some .boolean := X.2.2.2.1.trans hr
  have hlocks : meth.locks = false := X.2.2.2.2.1
  refine W.zret X.1 X.2.1 hret hv (fun t ht hW => ?_) S.2.2 d
  rw [hr]
  exact ⟨⟨v, μ, rfl, k, by show Rp sh σ cA D A μ t.heap; rw [ht]; exact R⟩, S.F ht⟩
theorem a_vret (hr : mt.2.2.2.1 = none) (d : decode mt.2.1 pc = .ok (.return_, 1)) (k : Q 0 μ) : AW sh mt pc al [] μ Q := by
  intro l σ cA D A p e s m args below meth c H locs ls X R S V
  have hret : meth.sig.returnType = none := X.2.2.2.1.trans hr
  have hlocks : meth.locks = false := X.2.2.2.2.1
  refine W.vret X.1 X.2.1 hret (fun t ht hW => ?_) S.2.2 d
  rw [hr]
  exact ⟨⟨μ, rfl, k, by show Rp sh σ cA D A μ t.heap; rw [ht]; exact R⟩, S.F ht⟩
end ROWS
