/-! BUILDING: worlds by their addresses, that grow; the law too -/
def Nx (U : State) : Prop := va_Nw (.methodLinkNest RX2 21 yX5_init "HeardSlots") U ∧ va_Nw (.methodLinkNest RX5 11 yX0_init "HeardSlots") U ∧ va_Nw (.methodLinkNest RX5 20 yX1_init "HeardSlots") U ∧ va_Nw (.methodLinkNest RX5 27 yX4_init "HeardSlots") U ∧ va_AO "HeardSlots$Station" U ∧ va_AO "HeardSlots$Net" U
theorem Nx.warm {s U : State} (h : Nx s) (hW : s.WarmedH U.vm) : Nx U := ⟨va_Nw.warmM hW h.1, va_Nw.warmM hW h.2.1, va_Nw.warmM hW h.2.2.1, va_Nw.warmM hW h.2.2.2.1, va_AO.moved hW.alike h.2.2.2.2.1, va_AO.moved hW.alike h.2.2.2.2.2⟩
theorem Nx.same {u U : State} (h : Nx u) (e : u.vm = U.vm) : Nx U := ⟨va_Nw.same rfl e h.1, va_Nw.same rfl e h.2.1, va_Nw.same rfl e h.2.2.1, va_Nw.same rfl e h.2.2.2.1, va_AO.moved (by rw [e]; exact Vm.Alike.refl _) h.2.2.2.2.1, va_AO.moved (by rw [e]; exact Vm.Alike.refl _) h.2.2.2.2.2⟩
abbrev rmB (mt : Mt) (kc ks : Nat) : Room := { frames := mt.2.2.2.2.1, cells := kc, slots := ks, locals := mt.2.2.2.2.2 }
def Bx (mt : Mt) (cA : Nat → ClassId) (D : va_G) (A : Nat → Prop) (p : Program) (s : State) (m : MethodId) (meth : Method) (c : Code) : Prop := Ax mt cA D p s m meth c ∧ Nx s ∧ ∀ q, s.heap.size ≤ q → A q
def BW (R : Room) (mt : Mt) (l : Launch) (D : va_G) (A : Nat → Prop) (p : Program) (e : Env) (s : State) (m : MethodId) (args : Array Value) (below : List Frame) (meth : Method) (c : Code) (Q : State → Prop) (k n pc : Nat) (al : List (Option Value)) (st : List Value) (ws : va_W) : Prop :=
  ∀ (H : Heap) (locs : List Loc) (ls : Array Slot), va_P D vwCl ws H → va_D A ws → va_S A s.heap H locs → LV id ls mt.2.2.1 al → W p l e R s m args below meth c H locs k n Q (F0 m pc ls st)
theorem map_id : ∀ st : List Value, st.map (cvl id) = st
  | [] => rfl
  | v :: st => by rw [List.map_cons, map_id st]; cases v <;> rfl
theorem cvl_id (v : Value) : cvl id v = v := by cases v <;> rfl
theorem LV.getI {ls : Array Slot} {nL : Nat} {al : List (Option Value)} (h : LV id ls nL al) {i : Nat} {v : Value} (hi : al[i]? = some (some v)) : ls[i]? = some (.val v) := by
  have := h.get hi; rw [cvl_id] at this; exact this
section BUILD
variable {R : Room} {mt : Mt} {l : Launch} {cA : Nat → ClassId} {D : va_G} {A : Nat → Prop} {p : Program} {e : Env} {s : State} {m : MethodId} {args : Array Value} {below : List Frame} {meth : Method} {c : Code} {Q : State → Prop}
variable {k n pc : Nat} {al : List (Option Value)} {st : List Value} {ws : va_W}
theorem b_aload_n {j : Fin 4} {i a : Nat} (X : Bx mt cA D A p s m meth c) (d : decode mt.2.1 pc = .ok (.aload_n j, 1)) (hj : (j : Nat) = i) (hi : al[i]? = some (some (.ref a))) (kk : BW R mt l D A p e s m args below meth c Q k n (pc + 1) al (.ref a :: st) ws) : BW R mt l D A p e s m args below meth c Q k n pc al st ws :=
  fun H locs ls P E S V => lv_aload_n X.1.1 X.1.2.1 d hj (V.getI hi) (kk H locs ls P E S V)
theorem b_iload_n {j : Fin 4} {i : Nat} {x : Int32} (X : Bx mt cA D A p s m meth c) (d : decode mt.2.1 pc = .ok (.iload_n j, 1)) (hj : (j : Nat) = i) (hi : al[i]? = some (some (.int x))) (kk : BW R mt l D A p e s m args below meth c Q k n (pc + 1) al (.int x :: st) ws) : BW R mt l D A p e s m args below meth c Q k n pc al st ws :=
  fun H locs ls P E S V => lv_iload_n X.1.1 X.1.2.1 d hj (V.getI hi) (kk H locs ls P E S V)
theorem b_iconst {i : Int} {v : Int32} (X : Bx mt cA D A p s m meth c) (d : decode mt.2.1 pc = .ok (.iconst i, 1)) (hv : Int32.ofInt i = v) (kk : BW R mt l D A p e s m args below meth c Q k n (pc + 1) al (.int v :: st) ws) : BW R mt l D A p e s m args below meth c Q k n pc al st ws :=
  fun H locs ls P E S V => lv_iconst X.1.1 X.1.2.1 d hv (kk H locs ls P E S V)
theorem b_bipush {i : Int} {v : Int32} (X : Bx mt cA D A p s m meth c) (d : decode mt.2.1 pc = .ok (.bipush i, 2)) (hv : (Int8.ofInt i).toInt32 = v) (kk : BW R mt l D A p e s m args below meth c Q k n (pc + 2) al (.int v :: st) ws) : BW R mt l D A p e s m args below meth c Q k n pc al st ws :=
  fun H locs ls P E S V => lv_bipush X.1.1 X.1.2.1 d hv (kk H locs ls P E S V)
theorem b_sipush {i : Int} {v : Int32} (X : Bx mt cA D A p s m meth c) (d : decode mt.2.1 pc = .ok (.sipush i, 3)) (hv : (Int16.ofInt i).toInt32 = v) (kk : BW R mt l D A p e s m args below meth c Q k n (pc + 3) al (.int v :: st) ws) : BW R mt l D A p e s m args below meth c Q k n pc al st ws :=
  fun H locs ls P E S V => lv_sipush X.1.1 X.1.2.1 d hv (kk H locs ls P E S V)
theorem b_istore_n {j : Fin 4} {i : Nat} {x : Int32} {al' : List (Option Value)} (X : Bx mt cA D A p s m meth c) (d : decode mt.2.1 pc = .ok (.istore_n j, 1)) (hj : (j : Nat) = i) (hn : i < mt.2.2.1) (hl : nolong al i = true) (he : al.set i (some (.int x)) = al') (kk : BW R mt l D A p e s m args below meth c Q k n (pc + 1) al' st ws) : BW R mt l D A p e s m args below meth c Q k n pc al (.int x :: st) ws :=
  fun H locs ls P E S V => lv_istore_n X.1.1 X.1.2.1 d hj V hn rfl (fun ls' h' => kk H locs ls' P E S (he ▸ LV.set1 (v := .int x) hl h'))
theorem b_astore_n {j : Fin 4} {i x : Nat} {al' : List (Option Value)} (X : Bx mt cA D A p s m meth c) (d : decode mt.2.1 pc = .ok (.astore_n j, 1)) (hj : (j : Nat) = i) (hn : i < mt.2.2.1) (hl : nolong al i = true) (he : al.set i (some (.ref x)) = al') (kk : BW R mt l D A p e s m args below meth c Q k n (pc + 1) al' st ws) : BW R mt l D A p e s m args below meth c Q k n pc al (.ref x :: st) ws :=
  fun H locs ls P E S V => lv_astore_n X.1.1 X.1.2.1 d hj V hn rfl (fun ls' h' => kk H locs ls' P E S (he ▸ LV.set1 (σ := id) (v := .ref x) hl h'))
theorem b_goto {off : Int} {tgt : Nat} (X : Bx mt cA D A p s m meth c) (d : decode mt.2.1 pc = .ok (.goto off, 3)) (ht : (pc : Int) + off = (tgt : Int)) (kk : BW R mt l D A p e s m args below meth c Q k n tgt al st ws) : BW R mt l D A p e s m args below meth c Q k n pc al st ws :=
  fun H locs ls P E S V => lv_goto X.1.1 X.1.2.1 d ht (kk H locs ls P E S V)
theorem b_dup {v : Value} (X : Bx mt cA D A p s m meth c) (d : decode mt.2.1 pc = .ok (.dup, 1)) (hv : v.category = 1) (kk : BW R mt l D A p e s m args below meth c Q k n (pc + 1) al (v :: v :: st) ws) : BW R mt l D A p e s m args below meth c Q k n pc al (v :: st) ws :=
  fun H locs ls P E S V => lv_dup X.1.1 X.1.2.1 d hv (kk H locs ls P E S V)
theorem b_pop {v : Value} (X : Bx mt cA D A p s m meth c) (d : decode mt.2.1 pc = .ok (.pop, 1)) (hv : v.category = 1) (kk : BW R mt l D A p e s m args below meth c Q k n (pc + 1) al st ws) : BW R mt l D A p e s m args below meth c Q k n pc al (v :: st) ws :=
  fun H locs ls P E S V => lv_pop X.1.1 X.1.2.1 d hv (kk H locs ls P E S V)
theorem b_iadd {x y : Int32} (X : Bx mt cA D A p s m meth c) (d : decode mt.2.1 pc = .ok (.iadd, 1)) (kk : BW R mt l D A p e s m args below meth c Q k n (pc + 1) al (.int (x + y) :: st) ws) : BW R mt l D A p e s m args below meth c Q k n pc al (.int y :: .int x :: st) ws :=
  fun H locs ls P E S V => lv_iadd X.1.1 X.1.2.1 d (kk H locs ls P E S V)
theorem b_isub {x y : Int32} (X : Bx mt cA D A p s m meth c) (d : decode mt.2.1 pc = .ok (.isub, 1)) (kk : BW R mt l D A p e s m args below meth c Q k n (pc + 1) al (.int (x - y) :: st) ws) : BW R mt l D A p e s m args below meth c Q k n pc al (.int y :: .int x :: st) ws :=
  fun H locs ls P E S V => lv_isub X.1.1 X.1.2.1 d (kk H locs ls P E S V)
theorem b_iand {x y : Int32} (X : Bx mt cA D A p s m meth c) (d : decode mt.2.1 pc = .ok (.iand, 1)) (kk : BW R mt l D A p e s m args below meth c Q k n (pc + 1) al (.int (x &&& y) :: st) ws) : BW R mt l D A p e s m args below meth c Q k n pc al (.int y :: .int x :: st) ws :=
  fun H locs ls P E S V => lv_iand X.1.1 X.1.2.1 d (kk H locs ls P E S V)
theorem b_ishr {x y : Int32} (X : Bx mt cA D A p s m meth c) (d : decode mt.2.1 pc = .ok (.ishr, 1)) (kk : BW R mt l D A p e s m args below meth c Q k n (pc + 1) al (.int (x >>> (y &&& 31)) :: st) ws) : BW R mt l D A p e s m args below meth c Q k n pc al (.int y :: .int x :: st) ws :=
  fun H locs ls P E S V => lv_ishr X.1.1 X.1.2.1 d (kk H locs ls P E S V)
theorem b_i2c {x : Int32} (X : Bx mt cA D A p s m meth c) (d : decode mt.2.1 pc = .ok (.i2c, 1)) (kk : BW R mt l D A p e s m args below meth c Q k n (pc + 1) al (.int (x.toUInt32 % 65536).toInt32 :: st) ws) : BW R mt l D A p e s m args below meth c Q k n pc al (.int x :: st) ws :=
  fun H locs ls P E S V => lv_i2c X.1.1 X.1.2.1 d rfl (kk H locs ls P E S V)
theorem b_if_eq {x : Int32} {off : Int} {tgt : Nat} (X : Bx mt cA D A p s m meth c) (d : decode mt.2.1 pc = .ok (.ifCond .eq off, 3)) (ht : (pc : Int) + off = (tgt : Int)) (kt : x = 0 → BW R mt l D A p e s m args below meth c Q k n tgt al st ws) (kf : ¬ x = 0 → BW R mt l D A p e s m args below meth c Q k n (pc + 3) al st ws) : BW R mt l D A p e s m args below meth c Q k n pc al (.int x :: st) ws :=
  fun H locs ls P E S V => lv_if_eq X.1.1 X.1.2.1 d ht (fun h => kt h H locs ls P E S V) (fun h => kf h H locs ls P E S V)
theorem b_if_ne {x : Int32} {off : Int} {tgt : Nat} (X : Bx mt cA D A p s m meth c) (d : decode mt.2.1 pc = .ok (.ifCond .ne off, 3)) (ht : (pc : Int) + off = (tgt : Int)) (kt : ¬ x = 0 → BW R mt l D A p e s m args below meth c Q k n tgt al st ws) (kf : x = 0 → BW R mt l D A p e s m args below meth c Q k n (pc + 3) al st ws) : BW R mt l D A p e s m args below meth c Q k n pc al (.int x :: st) ws :=
  fun H locs ls P E S V => lv_if_ne X.1.1 X.1.2.1 d ht (fun h => kt h H locs ls P E S V) (fun h => kf h H locs ls P E S V)
theorem b_if_lt {x : Int32} {off : Int} {tgt : Nat} (X : Bx mt cA D A p s m meth c) (d : decode mt.2.1 pc = .ok (.ifCond .lt off, 3)) (ht : (pc : Int) + off = (tgt : Int)) (kt : x < 0 → BW R mt l D A p e s m args below meth c Q k n tgt al st ws) (kf : ¬ x < 0 → BW R mt l D A p e s m args below meth c Q k n (pc + 3) al st ws) : BW R mt l D A p e s m args below meth c Q k n pc al (.int x :: st) ws :=
  fun H locs ls P E S V => lv_if_lt X.1.1 X.1.2.1 d ht (fun h => kt h H locs ls P E S V) (fun h => kf h H locs ls P E S V)
theorem b_icmp_ge {x y : Int32} {off : Int} {tgt : Nat} (X : Bx mt cA D A p s m meth c) (d : decode mt.2.1 pc = .ok (.if_icmp .ge off, 3)) (ht : (pc : Int) + off = (tgt : Int)) (kt : y ≤ x → BW R mt l D A p e s m args below meth c Q k n tgt al st ws) (kf : ¬ y ≤ x → BW R mt l D A p e s m args below meth c Q k n (pc + 3) al st ws) : BW R mt l D A p e s m args below meth c Q k n pc al (.int y :: .int x :: st) ws :=
  fun H locs ls P E S V => lv_icmp_ge X.1.1 X.1.2.1 d ht (fun h => kt h H locs ls P E S V) (fun h => kf h H locs ls P E S V)
theorem b_icmp_gt {x y : Int32} {off : Int} {tgt : Nat} (X : Bx mt cA D A p s m meth c) (d : decode mt.2.1 pc = .ok (.if_icmp .gt off, 3)) (ht : (pc : Int) + off = (tgt : Int)) (kt : y < x → BW R mt l D A p e s m args below meth c Q k n tgt al st ws) (kf : ¬ y < x → BW R mt l D A p e s m args below meth c Q k n (pc + 3) al st ws) : BW R mt l D A p e s m args below meth c Q k n pc al (.int y :: .int x :: st) ws :=
  fun H locs ls P E S V => lv_icmp_gt X.1.1 X.1.2.1 d ht (fun h => kt h H locs ls P E S V) (fun h => kf h H locs ls P E S V)
theorem b_icmp_lt {x y : Int32} {off : Int} {tgt : Nat} (X : Bx mt cA D A p s m meth c) (d : decode mt.2.1 pc = .ok (.if_icmp .lt off, 3)) (ht : (pc : Int) + off = (tgt : Int)) (kt : x < y → BW R mt l D A p e s m args below meth c Q k n tgt al st ws) (kf : ¬ x < y → BW R mt l D A p e s m args below meth c Q k n (pc + 3) al st ws) : BW R mt l D A p e s m args below meth c Q k n pc al (.int y :: .int x :: st) ws :=
  fun H locs ls P E S V => lv_icmp_lt X.1.1 X.1.2.1 d ht (fun h => kt h H locs ls P E S V) (fun h => kf h H locs ls P E S V)
theorem b_icmp_eq {x y : Int32} {off : Int} {tgt : Nat} (X : Bx mt cA D A p s m meth c) (d : decode mt.2.1 pc = .ok (.if_icmp .eq off, 3)) (ht : (pc : Int) + off = (tgt : Int)) (kt : x = y → BW R mt l D A p e s m args below meth c Q k n tgt al st ws) (kf : ¬ x = y → BW R mt l D A p e s m args below meth c Q k n (pc + 3) al st ws) : BW R mt l D A p e s m args below meth c Q k n pc al (.int y :: .int x :: st) ws :=
  fun H locs ls P E S V => lv_icmp_eq X.1.1 X.1.2.1 d ht (fun h => kt h H locs ls P E S V) (fun h => kf h H locs ls P E S V)
theorem b_iinc {i : Nat} {j : Int} {x v : Int32} {al' : List (Option Value)} (X : Bx mt cA D A p s m meth c) (d : decode mt.2.1 pc = .ok (.iinc i j, 3)) (h : al[i]? = some (some (.int x))) (hv : x + Int32.ofInt j = v) (hn : i < mt.2.2.1) (hl : nolong al i = true) (he : al.set i (some (.int v)) = al') (kk : BW R mt l D A p e s m args below meth c Q k n (pc + 3) al' st ws) : BW R mt l D A p e s m args below meth c Q k n pc al st ws := by
  intro H locs ls P E S V
  have hmem : (i, Value.int x) ∈ toL id al := mem_toL.mpr ⟨.int x, h, rfl⟩
  obtain ⟨q, hq⟩ := List.mem_iff_getElem?.mp hmem
  exact lv_iinc X.1.1 X.1.2.1 d V (k := q) hq hv hn rfl (fun ls' h' => kk H locs ls' P E S (he ▸ LV.set1 (v := .int v) hl h'))
theorem BW.cast {ws' : va_W} {al' : List (Option Value)} {st' : List Value} (h : BW R mt l D A p e s m args below meth c Q k n pc al st ws) (e1 : al = al') (e2 : st = st') (e3 : ws = ws') : BW R mt l D A p e s m args below meth c Q k n pc al' st' ws' := by
  subst e1; subst e2; subst e3; exact h
theorem BW.widen {k' n' : Nat} (h1 : k ≤ k') (h2 : n ≤ n') (kk : BW R mt l D A p e s m args below meth c Q k' n' pc al st ws) : BW R mt l D A p e s m args below meth c Q k n pc al st ws :=
  fun H locs ls P E S V => W.widen (k := k') (n := n') h1 h2 (kk H locs ls P E S V)
theorem b_get {own : String} {ci k0 index q a : Nat} {fs : List Value} {v : Value} (X : Bx mt cA D A p s m meth c) (hfl : FL mt.1.cls index ci k0) (hq : ws[q]? = some (a, .inr (ci, fs))) (hv : fs[k0]? = some v) (d : decode mt.2.1 pc = .ok (.getfield index, 3)) (kk : BW R mt l D A p e s m args below meth c Q k n (pc + 3) al (v :: st) ws) : BW R mt l D A p e s m args below meth c Q k n pc al (.ref a :: st) ws := by
  intro H locs ls P E S V
  obtain ⟨C, T, N, h1, h2, h3, h4⟩ := hfl
  exact va_get X.1.1 X.1.2.1 (Ts := u_ws C T N) (fun w hw => X.1.2.2.2.2.2.2.2.use (h4 w hw).1 (h4 w hw).2 args) (fun w hw => hw) X.1.2.2.2.2.2.1 X.1.2.2.2.2.2.2.1 P q hq h1 k0 h2 (X.1.2.2.2.2.2.2.2.use h3 rfl args) (fun _ h => h) (v := v) hv d (kk H locs ls P E S V)
/-- a final field, in a constructor of its class -/
def FF (own : String) (idx ci k : Nat) (ty : FieldType) : Prop := ∃ (C : String) (T : u_T) (N : Nat) (ty0 : Nat → FieldType), vwCl[ci]? = some (C, T, N) ∧ k < N ∧ Cond.fieldLink own idx (T k).1 (T k).2.1 (T k).2.2.1 ∈ lw_tbl ∧ (∀ w ∈ u_ws C T N, w ∈ lw_tbl ∧ hs_word w = true) ∧
  (∀ k, k < N → parseFieldDescriptor (T k).2.2.1 = some (ty0 k)) ∧ (∀ a, a < N → ∀ b, b < N → a ≠ b → (T a).2.1 ≠ (T b).2.1) ∧ (T k).2.2.2 = true ∧ (T k).1 = own ∧ parseFieldDescriptor (T k).2.2.1 = some ty
theorem b_putF {ci k0 index q a : Nat} {fs : List Value} {v : Value} {ty : FieldType} {ws' : va_W} (X : Bx mt cA D A p s m meth c) (hin : meth.name = "<init>") (hfl : FF mt.1.cls index ci k0 ty) (hn : narrow ty v = v) (hfit : fits ty v = true) (hq : ws[q]? = some (a, .inr (ci, fs))) (hl : k0 < fs.length) (d : decode mt.2.1 pc = .ok (.putfield index, 3)) (he : ws.set q (a, .inr (ci, fs.set k0 v)) = ws') (kk : BW R mt l D A p e s m args below meth c Q k n (pc + 3) al st ws') : BW R mt l D A p e s m args below meth c Q k n pc al (v :: .ref a :: st) ws := by
  intro H locs ls P E S V
  obtain ⟨C, T, N, ty0, h1, h2, h3, h4, h5, h6, h7, h8, h9⟩ := hfl
  refine va_putF X.1.1 X.1.2.1 (Ts := u_ws C T N) (fun w hw => X.1.2.2.2.2.2.2.2.use (h4 w hw).1 (h4 w hw).2 args) (fun w hw => hw) ty0 h5 h6 X.1.2.2.2.2.2.1 X.1.2.2.2.2.2.2.1 P E S q hq h1 k0 h2 (X.1.2.2.2.2.2.2.2.use h3 rfl args) (fun _ h => h) h7 hin h8 h9 hn hfit hl d (fun H1 locs1 hP1 hD1 hS1 => ?_)
  rw [he] at hP1 hD1
  exact kk H1 locs1 ls hP1 hD1 hS1 V
theorem b_put {ci k0 index q a : Nat} {fs : List Value} {v : Value} {ty : FieldType} {ws' : va_W} (X : Bx mt cA D A p s m meth c) (hfl : FP mt.1.cls index ci k0 ty) (hn : narrow ty v = v) (hfit : fits ty v = true) (hq : ws[q]? = some (a, .inr (ci, fs))) (hl : k0 < fs.length) (d : decode mt.2.1 pc = .ok (.putfield index, 3)) (he : ws.set q (a, .inr (ci, fs.set k0 v)) = ws') (kk : BW R mt l D A p e s m args below meth c Q k n (pc + 3) al st ws') : BW R mt l D A p e s m args below meth c Q k n pc al (v :: .ref a :: st) ws := by
  intro H locs ls P E S V
  obtain ⟨C, T, N, ty0, h1, h2, h3, h4, h5, h6, h7, h8⟩ := hfl
  refine va_put X.1.1 X.1.2.1 (Ts := u_ws C T N) (fun w hw => X.1.2.2.2.2.2.2.2.use (h4 w hw).1 (h4 w hw).2 args) (fun w hw => hw) ty0 h5 h6 X.1.2.2.2.2.2.1 X.1.2.2.2.2.2.2.1 P E S q hq h1 k0 h2 (X.1.2.2.2.2.2.2.2.use h3 rfl args) (fun _ h => h) h7 h8 hn hfit hl d (fun H1 locs1 hP1 hD1 hS1 => ?_)
  rw [he] at hP1 hD1
  exact kk H1 locs1 ls hP1 hD1 hS1 V
/-- a new object -/
def FN (own : String) (idx ci N : Nat) (fs : List Value) : Prop := ∃ (C : String) (T : u_T) (ty0 : Nat → FieldType), vwCl[ci]? = some (C, T, N) ∧ Cond.classLink own idx C ∈ lw_tbl ∧ Cond.instantiable C N ∈ lw_tbl ∧ Cond.initialized C ∈ lw_tbl ∧ (∀ w ∈ u_ws C T N, w ∈ lw_tbl ∧ hs_word w = true) ∧ (∀ k, k < N → parseFieldDescriptor (T k).2.2.1 = some (ty0 k)) ∧ ∀ j, j < N → defaultValue (ty0 j) = vp_V fs j
theorem b_new {ci N index : Nat} {fs : List Value} (X : Bx mt cA D A p s m meth c) (hfn : FN mt.1.cls index ci N fs) (hk : k + 1 ≤ R.cells) (hn : n + N ≤ R.slots) (d : decode mt.2.1 pc = .ok (.new index, 3)) (kk : ∀ q, BW R mt l D A p e s m args below meth c Q (k + 1) (n + N) (pc + 3) al (.ref q :: st) (ws ++ [(q, .inr (ci, fs))])) : BW R mt l D A p e s m args below meth c Q k n pc al st ws := by
  intro H locs ls P E S V
  obtain ⟨C, T, ty0, h1, h2, h3, h4, h5, h6, h7⟩ := hfn
  exact va_new X.1.1 X.1.2.1 (Ts := u_ws C T N) (fun w hw => X.1.2.2.2.2.2.2.2.use (h5 w hw).1 (h5 w hw).2 args) (fun w hw => hw) ty0 h6 X.1.2.2.2.2.2.1 (X.1.2.2.2.2.2.2.2.use h2 rfl args) (X.1.2.2.2.2.2.2.2.use h3 rfl args) (X.1.2.2.2.2.2.2.2.use h4 rfl args) X.1.2.2.2.2.2.2.1 P E S X.2.2 h1 h7 hk hn d (fun q H1 hP hD hS => kk q H1 locs ls hP hD hS V)
theorem RA_eq {U : State} {ty : FieldType} {a b : ClassId} (h1 : va_RA U a ty) (h2 : va_RA U b ty) : a = b := by
  cases ty with
  | object C =>
    obtain ⟨_, _, _, _, _, q1⟩ := h1
    obtain ⟨_, _, _, _, _, q2⟩ := h2
    exact Option.some.inj (q1.symm.trans q2)
  | _ => exact Option.some.inj (Eq.trans (Eq.symm h1) h2)
theorem last_ty {tys : List (ClassId × FieldType)} {q : ClassId × FieldType} : (tys ++ [q])[tys.length]? = some q := by simp
theorem arr_word {U : State} {a : ClassId} {ty : FieldType} {A0 : Array Value} (hp : ∀ C, ty ≠ .object C) (h : ArrOfT U a ty ∧ va_RA U a ty) : (Cond.arrayClass ty).before A0 U = true := by
  obtain ⟨h1, h2⟩ := h
  obtain ⟨-, kA, hk, comp, hkind⟩ := h1 0 (fun _ => .null)
  have hf : U.vm.findClass ("[" ++ ty.toString) = some a := by
    cases ty with
    | object C => exact absurd rfl (hp C)
    | _ => exact h2
  have hk' : U.vm.classes[a]? = some kA := hk
  unfold Cond.before Cond.holds
  simp only [Cond.value]
  rw [hf]
  simp [hk', hkind]
/-- a new row of ints, of chars -/
theorem b_newi {x : Int32} {N : Nat} (X : Bx mt cA D A p s m meth c) (hx : ¬ x < 0) (hN : x.toNatClampNeg = N) (hb : N * componentBytes .int ≤ 536870912) (hk : k + 1 ≤ R.cells) (hn : n + N ≤ R.slots) (d : decode mt.2.1 pc = .ok (.newarray .int, 2)) (kk : ∀ q, BW R mt l D A p e s m args below meth c Q (k + 1) (n + N) (pc + 2) al (.ref q :: st) (ws ++ [(q, .inl (cA 0, N, .inl (fun _ => 0)))])) : BW R mt l D A p e s m args below meth c Q k n pc al (.int x :: st) ws := by
  intro H locs ls P E S V
  have hK := X.1.2.2.2.2.2.2.1
  refine va_newa (atype := .int) (ty := .int) (a0 := (N, .inl (fun _ => 0))) X.1.1 X.1.2.1 (arr_word (fun C h => by cases h) (hK.2 0 _ rfl)) rfl hK P E S X.2.2 (fun _ => rfl) hx hN hb hk hn d (fun q cA' H1 hK1 hP hD hS => ?_)
  have e : cA' = cA 0 := RA_eq (ty := .int) (hK1.2 4 _ rfl).2 (hK.2 0 _ rfl).2
  subst e
  exact kk q H1 locs ls hP hD hS V
theorem b_newc {x : Int32} {N : Nat} (X : Bx mt cA D A p s m meth c) (hx : ¬ x < 0) (hN : x.toNatClampNeg = N) (hb : N * componentBytes .char ≤ 536870912) (hk : k + 1 ≤ R.cells) (hn : n + N ≤ R.slots) (d : decode mt.2.1 pc = .ok (.newarray .char, 2)) (kk : ∀ q, BW R mt l D A p e s m args below meth c Q (k + 1) (n + N) (pc + 2) al (.ref q :: st) (ws ++ [(q, .inl (cA 1, N, .inl (fun _ => 0)))])) : BW R mt l D A p e s m args below meth c Q k n pc al (.int x :: st) ws := by
  intro H locs ls P E S V
  have hK := X.1.2.2.2.2.2.2.1
  refine va_newa (atype := .char) (ty := .char) (a0 := (N, .inl (fun _ => 0))) X.1.1 X.1.2.1 (arr_word (fun C h => by cases h) (hK.2 1 _ rfl)) rfl hK P E S X.2.2 (fun _ => rfl) hx hN hb hk hn d (fun q cA' H1 hK1 hP hD hS => ?_)
  have e : cA' = cA 1 := RA_eq (ty := .char) (hK1.2 4 _ rfl).2 (hK.2 1 _ rfl).2
  subst e
  exact kk q H1 locs ls hP hD hS V
/-- a new row of objects: 2 stations, 3 nets -/
theorem b_newq {x : Int32} {N index t : Nat} {C : String} (X : Bx mt cA D A p s m meth c) (ht : (tysA cA)[t]? = some (cA t, .object C)) (hcl : Cond.classLink mt.1.cls index C ∈ lw_tbl) (hao : va_AO C s) (hx : ¬ x < 0) (hN : x.toNatClampNeg = N) (hb : N * 4 ≤ 536870912) (hk : k + 1 ≤ R.cells) (hn : n + N ≤ R.slots) (d : decode mt.2.1 pc = .ok (.anewarray index, 3)) (kk : ∀ q, BW R mt l D A p e s m args below meth c Q (k + 1) (n + N) (pc + 3) al (.ref q :: st) (ws ++ [(q, .inl (cA t, N, .inr (.inr (.inr (.inr (fun _ => none))))))])) : BW R mt l D A p e s m args below meth c Q k n pc al (.int x :: st) ws := by
  intro H locs ls P E S V
  have hK := X.1.2.2.2.2.2.2.1
  refine va_newq X.1.1 X.1.2.1 X.1.2.2.2.2.2.1 (X.1.2.2.2.2.2.2.2.use hcl rfl args) hao hK P E S X.2.2 hx hN hb hk hn d (fun q cA' H1 hK1 hP hD hS => ?_)
  have e : cA' = cA t := RA_eq (ty := .object C) (hK1.2 4 _ rfl).2 (hK.2 t _ ht).2
  subst e
  exact kk q H1 locs ls hP hD hS V
theorem b_astq {q t qk ci v N a : Nat} {r : vw_C} {vs : List Value} {f : Nat → Option Nat} {i : Int32} {ws' : va_W} (X : Bx mt cA D A p s m meth c) (hq : ws[q]? = some (a, .inl (cA t, N, .inr (.inr (.inr (.inr f)))))) (ht : (tysA cA)[t]? = some (cA t, .object r.1)) (hv : ws[qk]? = some (v, .inr (ci, vs))) (hc : vwCl[ci]? = some r) (hin : vp_in i N) (d : decode mt.2.1 pc = .ok (.aastore, 1)) (he : ws.set q (a, .inl (cA t, N, .inr (.inr (.inr (.inr (va_up f i.toNatClampNeg (some v))))))) = ws') (kk : BW R mt l D A p e s m args below meth c Q k n (pc + 1) al st ws') : BW R mt l D A p e s m args below meth c Q k n pc al (.ref v :: .int i :: .ref a :: st) ws := by
  intro H locs ls P E S V
  refine va_astq X.1.1 X.1.2.1 X.1.2.2.2.2.2.2.1 P E S q t qk ci hq ht hv hc hin d (fun H1 locs1 hP hD hS => ?_)
  rw [he] at hP hD
  exact kk H1 locs1 ls hP hD hS V
theorem b_objInit {idx a : Nat} (X : Bx mt cA D A p s m meth c) (hl : Cond.methodLink mt.1.cls idx Lib.objectInit ∈ lw_tbl) (hi : Cond.instanceMethod Lib.objectInit ∈ lw_tbl) (hc : Cond.code Lib.objectInit ⟨#[0xb1]⟩ 1 none ∈ lw_tbl) (d : decode mt.2.1 pc = .ok (.invokespecial idx, 3)) (hf : 1 ≤ R.frames) (hL : (st.map Value.category).sum + 12 ≤ R.locals) (kk : BW R mt l D A p e s m args below meth c Q k n (pc + 3) al st ws) : BW R mt l D A p e s m args below meth c Q k n pc al (.ref a :: st) ws := by
  intro H locs ls P E S V
  have hF := X.1.2.2.2.2.2.2.2
  exact W.objInit X.1.1 X.1.2.1 X.1.2.2.2.2.2.1 (hF.use hl rfl args) (hF.use hi rfl args) (hF.use hc rfl args) rfl (by rw [X.1.2.2.1]; exact V.1) rfl d hf (by show 2 * 0 + (st.map Value.category).sum + 12 ≤ _; omega) (kk H locs ls P E S V)
end BUILD
