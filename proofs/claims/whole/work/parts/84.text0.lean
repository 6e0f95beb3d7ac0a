/-! the first text: a String constant; the JDK's members that read it -/
def fbL : List Int32 := [110, 52, 59, 104, 48, 44, 49, 59, 104, 49, 44, 50, 59, 104, 50, 44, 51, 59, 108, 48, 44, 49, 44, 53, 59, 108, 50, 44, 49, 44, 53, 59, 108, 51, 44, 50, 44, 49, 59, 108, 49, 44, 48, 44, 50, 59]
def ftx (k : Nat) : Nat := ([110, 52, 59, 104, 48, 44, 49, 59, 104, 49, 44, 50, 59, 104, 50, 44, 51, 59, 108, 48, 44, 49, 44, 53, 59, 108, 50, 44, 49, 44, 53, 59, 108, 51, 44, 50, 44, 49, 59, 108, 49, 44, 48, 44, 50, 59] : List Nat).getD k 0
def Gs (a v : Nat) (A : Nat → Prop) (U : State) (H : Heap) : Prop := vk_S 1 [46] [fbL] (fun _ => a) (fun _ => v) A U H ∧ va_Z "java/lang/String" "COMPACT_STRINGS" "Z" (.int 1) A U H ∧ va_Zq "jdk/internal/util/Preconditions" "SIOOBE_FORMATTER" "Ljava/util/function/BiFunction;" A U H
theorem Gs.go {a v : Nat} {A B : Nat → Prop} {s U : State} {H : Heap} (h : Gs a v A s s.heap) (hk : ∀ q : Nat, q < s.heap.size → ¬ A q → H[q]? = s.heap[q]?) (hvm : s.vm.Alike U.vm) (hB : ∀ q, B q → A q) : Gs a v B U H :=
  ⟨(vk_S.moved hvm (h.1.kept hk)).narrow hB, (va_Z.moved hvm (h.2.1.kept hk)).narrow hB, (va_Zq.moved hvm (h.2.2.kept hk)).narrow hB⟩
theorem Gs.same {a v : Nat} {A : Nat → Prop} {s U : State} {H : Heap} (h : Gs a v A s H) (e : s.vm = U.vm) : Gs a v A U H :=
  ⟨vk_S.moved (by rw [e]; exact Vm.Alike.refl _) h.1, va_Z.moved (by rw [e]; exact Vm.Alike.refl _) h.2.1, va_Zq.moved (by rw [e]; exact Vm.Alike.refl _) h.2.2⟩
def JPre (cA : Nat → ClassId) (D : va_G) (x v : Nat) (vs : List Value) (sz : Nat) (a : Array Value) (U : State) : Prop := a = vs.toArray ∧ va_K D vwCl (tysA cA) U ∧ Fx U ∧ Nx U ∧ U.heap.size = sz ∧ Gs x v (fun q => sz ≤ q) U U.heap
def JQ (sz : Nat) (ret : Option FieldType) (ans : Int32) : Array Value → State → Outcome → State → Prop := match ret with
  | none => va_Qv (fun _ : Unit => True) (fun _ _ => True) (fun q => sz ≤ q)
  | some _ => va_Qi (fun (r : Int32) (_ : Unit) => r = ans) (fun _ _ => True) (fun q => sz ≤ q)
/-- a member of the JDK: it answers ans, and changes nothing -/
def JCon (mt : Mt) (x v : Nat) (vs : List Value) (ans : Int32) : Prop := ∀ (l : Launch) (cA : Nat → ClassId) (D : va_G) (sz : Nat), Met l mt.1 [.code mt.1 mt.2.1 mt.2.2.1 mt.2.2.2.1] (rmOf mt) (JPre cA D x v vs sz) (JQ sz mt.2.2.2.1 ans) 0 0 (fun q => sz ≤ q)
theorem blind_J {cA : Nat → ClassId} {D : va_G} {x v : Nat} {vs : List Value} {sz : Nat} : FrameBlind (JPre cA D x v vs sz) := by
  intro a U g mk q
  obtain ⟨q1, q2, q3, q4, q5, q6⟩ := q
  exact ⟨q1, va_K.moved (u := U) (U := U.calling g mk a) (Vm.Alike.refl U.vm) q2, q3.same rfl, q4.same rfl, q5, q6.same rfl⟩
section JDK
variable {R : Room} {mt : Mt} {l : Launch} {cA : Nat → ClassId} {D : va_G} {A : Nat → Prop} {p : Program} {e : Env} {s : State} {m : MethodId} {args : Array Value} {below : List Frame} {meth : Method} {c : Code} {Q : State → Prop}
variable {k n pc : Nat} {al : List (Option Value)} {st : List Value} {ws : va_W}
theorem JCon.ofBW {x v : Nat} {vs : List Value} {ans : Int32} {al0 : List (Option Value)} (hy : plainName mt.1.cls = true) (hc : cat1 vs = true) (hn : vs.length ≤ mt.2.2.1) (ha : vs.map some ++ List.replicate (mt.2.2.1 - vs.length) none = al0)
    (h : ∀ (l : Launch) (cA : Nat → ClassId) (D : va_G) (p : Program) (e : Env) (s : State) (m : MethodId) (args : Array Value) (below : List Frame) (meth : Method) (c : Code), Bx mt cA D (fun q => s.heap.size ≤ q) p s m meth c → Gs x v (fun q => s.heap.size ≤ q) s s.heap → BW (rmOf mt) mt l D (fun q => s.heap.size ≤ q) p e s m args below meth c (MQ below (JQ s.heap.size mt.2.2.2.1 ans) args s 0 0 (fun q => s.heap.size ≤ q)) 0 0 0 al0 [] []) : JCon mt x v vs ans := by
  intro l cA D sz
  refine Met.ofW (cc := mt.2.1) (maxL := mt.2.2.1) (ret := mt.2.2.2.1) hy rfl ?_
  intro p e s m args below meth c s₁ B hml hv
  obtain ⟨rfl, hK, hF, hN, rfl, hG⟩ := hv
  have hown : s.vm.findClass mt.1.cls = some m.cls := findClass_of_methodNamed B.named
  have hc1 : ∀ v ∈ vs, v.category = 1 := fun v hv => by simpa using List.all_eq_true.mp hc v hv
  have hl := lv_entry vs (n := mt.2.2.1) (by rw [lg_sl1 _ hc1]; exact hn)
  rw [lg_entry_eq]
  refine h l cA D p e s m _ below meth c ⟨⟨B.exec, B.bytes, hml, B.returns, B.notSynchronized, hown, hK, hF⟩, hN, fun q hq => hq⟩ hG s.heap [] _ (fun i x h => by simp at h) ⟨fun i j x y h => by simp at h, fun i x h => by simp at h⟩ va_S.rf ⟨hl.1, hl.2.1, fun q hq => ?_⟩
  obtain ⟨w, h1, h2⟩ := mem_toL.mp hq
  rw [cvl_id] at h2
  have h3 : vs[q.1]? = some w := by
    rw [← ha] at h1
    by_cases hq1 : q.1 < vs.length
    · rw [List.getElem?_append_left (by rw [List.length_map]; exact hq1), List.getElem?_map] at h1
      cases hx : vs[q.1]? with
      | none => rw [hx] at h1; cases h1
      | some w => rw [hx] at h1; cases h1; rfl
    · rw [List.getElem?_append_right (by rw [List.length_map]; omega), List.getElem?_replicate] at h1
      split at h1 <;> cases h1
  have h4 := lv_args1 vs 0 hc1 q.1 w h3
  rw [Nat.zero_add, ← h2] at h4
  exact hl.2.2 q h4
theorem b_gets {C nn dd : String} {index : Nat} {v : Value} (X : Bx mt cA D A p s m meth c) (hZ : va_Z C nn dd v A s s.heap) (hl : Cond.fieldLink mt.1.cls index C nn dd ∈ lw_tbl) (d : decode mt.2.1 pc = .ok (.getstatic index, 3)) (kk : BW R mt l D A p e s m args below meth c Q k n (pc + 3) al (v :: st) ws) : BW R mt l D A p e s m args below meth c Q k n pc al st ws :=
  fun H locs ls P E S V => va_gets X.1.1 X.1.2.1 hZ S X.1.2.2.2.2.2.1 (X.1.2.2.2.2.2.2.2.use hl rfl args) (fun _ h => h) d (kk H locs ls P E S V)
theorem b_getX {o nn dd : String} {index q : Nat} {v : Value} (X : Bx mt cA D A p s m meth c) (hE : va_OF o nn dd v q A s s.heap) (hl : Cond.fieldLink mt.1.cls index o nn dd ∈ lw_tbl) (d : decode mt.2.1 pc = .ok (.getfield index, 3)) (kk : BW R mt l D A p e s m args below meth c Q k n (pc + 3) al (v :: st) ws) : BW R mt l D A p e s m args below meth c Q k n pc al (.ref q :: st) ws :=
  fun H locs ls P E S V => vk_getf X.1.1 X.1.2.1 hE S X.1.2.2.2.2.2.1 (X.1.2.2.2.2.2.2.2.use hl rfl args) (fun _ h => h) d (kk H locs ls P E S V)
theorem b_tlen {ty : FieldType} {t N : Nat} {f : Nat → Value} {v : Int32} (X : Bx mt cA D A p s m meth c) (hT : va_T ty t N f A s s.heap) (hv : Int32.ofNat N = v) (d : decode mt.2.1 pc = .ok (.arraylength, 1)) (kk : BW R mt l D A p e s m args below meth c Q k n (pc + 1) al (.int v :: st) ws) : BW R mt l D A p e s m args below meth c Q k n pc al (.ref t :: st) ws :=
  fun H locs ls P E S V => va_tlen X.1.1 X.1.2.1 hT S hv d (kk H locs ls P E S V)
theorem b_tb {t N : Nat} {f : Nat → Value} {i : Int32} {v : Value} (X : Bx mt cA D A p s m meth c) (hT : va_T .byte t N f A s s.heap) (hin : vp_in i N) (hv : f i.toNatClampNeg = v) (d : decode mt.2.1 pc = .ok (.baload, 1)) (kk : BW R mt l D A p e s m args below meth c Q k n (pc + 1) al (v :: st) ws) : BW R mt l D A p e s m args below meth c Q k n pc al (.int i :: .ref t :: st) ws :=
  fun H locs ls P E S V => va_tb X.1.1 X.1.2.1 hT S hin hv d (kk H locs ls P E S V)
theorem b_ldcS {tx : String} {index q : Nat} (X : Bx mt cA D A p s m meth c) (hZ : vk_R mt.1.cls index tx q s) (d : decode mt.2.1 pc = .ok (.ldc index, 2)) (kk : BW R mt l D A p e s m args below meth c Q k n (pc + 2) al (.ref q :: st) ws) : BW R mt l D A p e s m args below meth c Q k n pc al st ws :=
  fun H locs ls P E S V => va_ldcS X.1.1 X.1.2.1 X.1.2.2.2.2.2.1 hZ d (kk H locs ls P E S V)
theorem j_ret {ans : Int32} {ty : FieldType} (X : Bx mt cA D (fun q => s.heap.size ≤ q) p s m meth c) (hr : mt.2.2.2.1 = some ty) (hn : narrow ty (.int ans) = .int ans) (d : decode mt.2.1 pc = .ok (.ireturn, 1)) : BW R mt l D (fun q => s.heap.size ≤ q) p e s m args below meth c (MQ below (JQ s.heap.size mt.2.2.2.1 ans) args s 0 0 (fun q => s.heap.size ≤ q)) 0 0 pc al [.int ans] ws := by
  intro H locs ls P E S V
  have hret : meth.sig.returnType = some ty := X.1.2.2.2.1.trans hr
  have hlocks : meth.locks = false := X.1.2.2.2.2.1
  rw [hr]
  exact W.zret X.1.1 X.1.2.1 hret hn (fun t ht hW => ⟨⟨ans, (), rfl, rfl, trivial⟩, S.F ht⟩) S.2.2 d
theorem j_retv {ans : Int32} (X : Bx mt cA D (fun q => s.heap.size ≤ q) p s m meth c) (hr : mt.2.2.2.1 = none) (d : decode mt.2.1 pc = .ok (.return_, 1)) : BW R mt l D (fun q => s.heap.size ≤ q) p e s m args below meth c (MQ below (JQ s.heap.size mt.2.2.2.1 ans) args s 0 0 (fun q => s.heap.size ≤ q)) 0 0 pc al [] ws := by
  intro H locs ls P E S V
  have hret : meth.sig.returnType = none := X.1.2.2.2.1.trans hr
  have hlocks : meth.locks = false := X.1.2.2.2.2.1
  rw [hr]
  exact W.vret X.1.1 X.1.2.1 hret (fun t ht hW => ⟨⟨(), rfl, trivial, trivial⟩, S.F ht⟩) S.2.2 d
/-- worlds stay when no old cell changes -/
theorem keep_all {Y : va_W} {H H1 : Heap} (P : va_P D vwCl Y H) (hk : ∀ q : Nat, q < H.size → ¬ H.size ≤ q → H1[q]? = H[q]?) : va_P D vwCl Y H1 := P.kept (fun i x hx => by
  have := (P i x hx).lt
  exact hk x.1 this (by omega))
theorem callB_R {idx nn : Nat} {mt' : Mt} (hF : Fx s) (h : CKb mt.1.cls idx mt' nn) (hf : FitR R mt') : CallB R s args mt.1.cls idx mt'.1 mt'.2.1 mt'.2.2.1 mt'.2.2.2.1 [.code mt'.1 mt'.2.1 mt'.2.2.1 mt'.2.2.2.1] (rmOf mt') 0 0 nn := by
  obtain ⟨h1, h2, h3, h4, h5⟩ := h
  refine ⟨rfl, rfl, hf.1, hf.2, fun w hw a' U hW => ?_, List.mem_singleton.mpr rfl, hF.use h3 rfl args, hF.use h2 rfl args, h4, fun sig hs => ?_, hF.use h1 rfl args⟩
  · rw [List.mem_singleton.mp hw]
    exact (hF.warm hW).use h3 rfl a'
  · rw [hs] at h5
    exact (Option.some.inj h5).symm
theorem b_callJS {mt' : Mt} {idx x v : Nat} {vs : List Value} {ans : Int32} {ty : FieldType} (X : Bx mt cA D A p s m meth c) (G : Gs x v A s s.heap) (ck : CS mt.1.cls idx mt' vs.length) (hr : mt'.2.2.2.1 = some ty) (hC : JCon mt' x v vs ans) (hf : FitR R mt') (hst : (st.map Value.category).sum ≤ 8) (hk : k ≤ R.cells) (hn : n ≤ R.slots) (d : decode mt.2.1 pc = .ok (.invokestatic idx, 3)) (kk : BW R mt l D A p e s m args below meth c Q k n (pc + 3) al (.int ans :: st) ws) : BW R mt l D A p e s m args below meth c Q k n pc al (vs.reverse ++ st) ws := by
  intro H locs ls P E S V
  have hF := X.1.2.2.2.2.2.2.2
  have hK := X.1.2.2.2.2.2.2.1
  have hA : ∀ q, H.size ≤ q → A q := fun q hq => X.2.2 q (Nat.le_trans S.1 hq)
  have hM := hC l cA D H.size
  rw [hr] at hM
  refine va_calli (a := vs.toArray) (va_runS (As := vs) (rest := st) (Ts := []) (n := vs.length) ⟨X.1.1, X.1.2.1, X.1.2.2.1, X.1.2.2.2.2.2.1, fun w h => by cases h⟩ hM ⟨hr ▸ callB_R hF ck.1 hf, hF.use ck.2 rfl args⟩ ⟨blind_J, fun U hU hW => ⟨rfl, va_K.moved hW.alike hK, hF.warm hW, X.2.1.warm hW, by rw [hU], by rw [hU]; exact G.go S.2.1 hW.alike hA⟩⟩ rfl rfl V.1 rfl (lv_room hst) d ⟨hk, hn⟩) S (fun q _ h => hA q h) hA (fun r u t H1 locs1 ht hvm hw hB hz1 hk1 hS => ?_)
  subst hw
  exact kk H1 locs1 ls (keep_all P hk1) E hS V
theorem b_callJSv {mt' : Mt} {idx x v : Nat} {vs : List Value} {ans : Int32} (X : Bx mt cA D A p s m meth c) (G : Gs x v A s s.heap) (ck : CS mt.1.cls idx mt' vs.length) (hr : mt'.2.2.2.1 = none) (hC : JCon mt' x v vs ans) (hf : FitR R mt') (hst : (st.map Value.category).sum ≤ 8) (hk : k ≤ R.cells) (hn : n ≤ R.slots) (d : decode mt.2.1 pc = .ok (.invokestatic idx, 3)) (kk : BW R mt l D A p e s m args below meth c Q k n (pc + 3) al st ws) : BW R mt l D A p e s m args below meth c Q k n pc al (vs.reverse ++ st) ws := by
  intro H locs ls P E S V
  have hF := X.1.2.2.2.2.2.2.2
  have hK := X.1.2.2.2.2.2.2.1
  have hA : ∀ q, H.size ≤ q → A q := fun q hq => X.2.2 q (Nat.le_trans S.1 hq)
  have hM := hC l cA D H.size
  rw [hr] at hM
  refine va_callv (a := vs.toArray) (va_runS (As := vs) (rest := st) (Ts := []) (n := vs.length) ⟨X.1.1, X.1.2.1, X.1.2.2.1, X.1.2.2.2.2.2.1, fun w h => by cases h⟩ hM ⟨hr ▸ callB_R hF ck.1 hf, hF.use ck.2 rfl args⟩ ⟨blind_J, fun U hU hW => ⟨rfl, va_K.moved hW.alike hK, hF.warm hW, X.2.1.warm hW, by rw [hU], by rw [hU]; exact G.go S.2.1 hW.alike hA⟩⟩ rfl rfl V.1 rfl (lv_room hst) d ⟨hk, hn⟩) S (fun q _ h => hA q h) hA (fun u t H1 locs1 ht hvm hw hB hz1 hk1 hS => ?_)
  exact kk H1 locs1 ls (keep_all P hk1) E hS V
def CV (own : String) (idx : Nat) (mt' : Mt) (n : Nat) : Prop := CKb own idx mt' n ∧ Cond.instanceMethod mt'.1 ∈ lw_tbl ∧ Cond.selects mt'.1.cls mt'.1 mt'.1 ∈ lw_tbl ∧ mt'.1.cls = "java/lang/String"
theorem b_callJV {mt' : Mt} {idx x v : Nat} {vs : List Value} {ans : Int32} {ty : FieldType} (X : Bx mt cA D A p s m meth c) (G : Gs x v A s s.heap) (ck : CV mt.1.cls idx mt' vs.length) (hr : mt'.2.2.2.1 = some ty) (hC : JCon mt' x v (.ref x :: vs) ans) (hf : FitR R mt') (hst : (st.map Value.category).sum ≤ 8) (hk : k ≤ R.cells) (hn : n ≤ R.slots) (d : decode mt.2.1 pc = .ok (.invokevirtual idx, 3)) (kk : BW R mt l D A p e s m args below meth c Q k n (pc + 3) al (.int ans :: st) ws) : BW R mt l D A p e s m args below meth c Q k n pc al (vs.reverse ++ .ref x :: st) ws := by
  intro H locs ls P E S V
  have hF := X.1.2.2.2.2.2.2.2
  have hK := X.1.2.2.2.2.2.2.1
  have hA : ∀ q, H.size ≤ q → A q := fun q hq => X.2.2 q (Nat.le_trans S.1 hq)
  have hM := hC l cA D H.size
  rw [hr] at hM
  refine va_calli (a := (Value.ref x :: vs).toArray) (va_runV (As := vs) (b := x) (rest := st) (Ts := []) (n := vs.length) (C := mt'.1.cls) ⟨X.1.1, X.1.2.1, X.1.2.2.1, X.1.2.2.2.2.2.1, fun w h => by cases h⟩ hM ⟨hr ▸ callB_R hF ck.1 hf, hF.use ck.2.1 rfl args, hF.use ck.2.2.1 rfl args⟩ ⟨blind_J, by rw [ck.2.2.2]; exact vk_recv (i := 0) G.1 (by omega) S, fun U hU hW => ⟨rfl, va_K.moved hW.alike hK, hF.warm hW, X.2.1.warm hW, by rw [hU], by rw [hU]; exact G.go S.2.1 hW.alike hA⟩⟩ rfl rfl V.1 rfl (lv_room hst) d ⟨hk, hn⟩) S (fun q _ h => hA q h) hA (fun r u t H1 locs1 ht hvm hw hB hz1 hk1 hS => ?_)
  subst hw
  exact kk H1 locs1 ls (keep_all P hk1) E hS V
end JDK
abbrev mJ0_length_8abf5 : Mt := (yJ0_length_8abf5, cJ0_length_8abf5, 1, some .int, 1, 20)
abbrev mJ0_charAt_5068e : Mt := (yJ0_charAt_5068e, cJ0_charAt_5068e, 2, some .char, 5, 133)
abbrev mJ0_coder_7d493 : Mt := (yJ0_coder_7d493, cJ0_coder_7d493, 1, some .byte, 0, 0)
abbrev mJ0_isLatin1_aae02 : Mt := (yJ0_isLatin1_aae02, cJ0_isLatin1_aae02, 1, some .boolean, 0, 0)
abbrev mJ0_checkIndex_df160 : Mt := (yJ0_checkIndex_df160, cJ0_checkIndex_df160, 2, none, 2, 70)
abbrev mJ1_charAt_3b067 : Mt := (yJ1_charAt_3b067, cJ1_charAt_3b067, 2, some .char, 3, 91)
abbrev mJ3_checkIndex_8e157 : Mt := (yJ3_checkIndex_8e157, cJ3_checkIndex_8e157, 3, some .int, 1, 48)
theorem jv_X6_38 : CV RX6 38 mJ0_length_8abf5 0 := ⟨⟨List.mem_append_right _ (List.mem_of_getElem? (i := 259) (by decide +kernel)), List.mem_append_right _ (List.mem_of_getElem? (i := 8) (by decide +kernel)), List.mem_append_right _ (List.mem_of_getElem? (i := 262) (by decide +kernel)), ⟨by decide +kernel, by decide +kernel⟩, by decide +kernel⟩, List.mem_append_right _ (List.mem_of_getElem? (i := 260) (by decide +kernel)), List.mem_append_right _ (List.mem_of_getElem? (i := 261) (by decide +kernel)), rfl⟩
theorem jv_X6_44 : CV RX6 44 mJ0_charAt_5068e 1 := ⟨⟨List.mem_append_right _ (List.mem_of_getElem? (i := 269) (by decide +kernel)), List.mem_append_right _ (List.mem_of_getElem? (i := 8) (by decide +kernel)), List.mem_append_right _ (List.mem_of_getElem? (i := 272) (by decide +kernel)), ⟨by decide +kernel, by decide +kernel⟩, by decide +kernel⟩, List.mem_append_right _ (List.mem_of_getElem? (i := 270) (by decide +kernel)), List.mem_append_right _ (List.mem_of_getElem? (i := 271) (by decide +kernel)), rfl⟩
theorem jv_J0_335 : CV RJ0 335 mJ0_coder_7d493 0 := ⟨⟨List.mem_append_right _ (List.mem_of_getElem? (i := 263) (by decide +kernel)), List.mem_append_right _ (List.mem_of_getElem? (i := 8) (by decide +kernel)), List.mem_append_right _ (List.mem_of_getElem? (i := 266) (by decide +kernel)), ⟨by decide +kernel, by decide +kernel⟩, by decide +kernel⟩, List.mem_append_right _ (List.mem_of_getElem? (i := 264) (by decide +kernel)), List.mem_append_right _ (List.mem_of_getElem? (i := 265) (by decide +kernel)), rfl⟩
theorem jv_J0_492 : CV RJ0 492 mJ0_isLatin1_aae02 0 := ⟨⟨List.mem_append_right _ (List.mem_of_getElem? (i := 273) (by decide +kernel)), List.mem_append_right _ (List.mem_of_getElem? (i := 8) (by decide +kernel)), List.mem_append_right _ (List.mem_of_getElem? (i := 276) (by decide +kernel)), ⟨by decide +kernel, by decide +kernel⟩, by decide +kernel⟩, List.mem_append_right _ (List.mem_of_getElem? (i := 274) (by decide +kernel)), List.mem_append_right _ (List.mem_of_getElem? (i := 275) (by decide +kernel)), rfl⟩
theorem js_J0_495 : CS RJ0 495 mJ1_charAt_3b067 2 := ⟨⟨List.mem_append_right _ (List.mem_of_getElem? (i := 277) (by decide +kernel)), List.mem_append_right _ (List.mem_of_getElem? (i := 9) (by decide +kernel)), List.mem_append_right _ (List.mem_of_getElem? (i := 279) (by decide +kernel)), ⟨by decide +kernel, by decide +kernel⟩, by decide +kernel⟩, List.mem_append_right _ (List.mem_of_getElem? (i := 278) (by decide +kernel))⟩
theorem js_J1_9 : CS RJ1 9 mJ0_checkIndex_df160 2 := ⟨⟨List.mem_append_right _ (List.mem_of_getElem? (i := 280) (by decide +kernel)), List.mem_append_right _ (List.mem_of_getElem? (i := 8) (by decide +kernel)), List.mem_append_right _ (List.mem_of_getElem? (i := 282) (by decide +kernel)), ⟨by decide +kernel, by decide +kernel⟩, by decide +kernel⟩, List.mem_append_right _ (List.mem_of_getElem? (i := 281) (by decide +kernel))⟩
theorem js_J0_1059 : CS RJ0 1059 mJ3_checkIndex_8e157 3 := ⟨⟨List.mem_append_right _ (List.mem_of_getElem? (i := 285) (by decide +kernel)), List.mem_append_right _ (List.mem_of_getElem? (i := 10) (by decide +kernel)), List.mem_append_right _ (List.mem_of_getElem? (i := 287) (by decide +kernel)), ⟨by decide +kernel, by decide +kernel⟩, by decide +kernel⟩, List.mem_append_right _ (List.mem_of_getElem? (i := 286) (by decide +kernel))⟩
theorem jf_9 : Cond.fieldLink RJ0 9 "java/lang/String" "value" "[B" ∈ lw_tbl := List.mem_append_right _ (List.mem_of_getElem? (i := 964) (by decide +kernel))
theorem jf_15 : Cond.fieldLink RJ0 15 "java/lang/String" "coder" "B" ∈ lw_tbl := List.mem_append_right _ (List.mem_of_getElem? (i := 965) (by decide +kernel))
theorem jf_38 : Cond.fieldLink RJ0 38 "java/lang/String" "COMPACT_STRINGS" "Z" ∈ lw_tbl := List.mem_append_right _ (List.mem_of_getElem? (i := 267) (by decide +kernel))
theorem jf_1053 : Cond.fieldLink RJ0 1053 "jdk/internal/util/Preconditions" "SIOOBE_FORMATTER" "Ljava/util/function/BiFunction;" ∈ lw_tbl := List.mem_append_right _ (List.mem_of_getElem? (i := 283) (by decide +kernel))
set_option maxHeartbeats 4000000 in
set_option maxRecDepth 100000 in
theorem c_J0_coder {x v : Nat} : JCon mJ0_coder_7d493 x v [.ref x] 0 := by
  refine JCon.ofBW (al0 := [some (.ref x)]) (by decide) rfl (Nat.le_of_ble_eq_true rfl) rfl ?_
  intro l cA D p e s m args below meth c X G
  refine b_gets (pc := 0) X G.2.1 jf_38 dJ0_coder_7d493_0 ?_
  refine b_if_eq (pc := 3) (tgt := 13) X dJ0_coder_7d493_3 (by decide) (fun h => absurd h (by decide)) (fun _ => ?_)
  refine b_aload_n (pc := 6) X dJ0_coder_7d493_6 rfl rfl ?_
  refine b_getX (pc := 7) X (G.1.1 0 (by omega)).2.1 jf_15 dJ0_coder_7d493_7 ?_
  refine b_goto (pc := 10) (tgt := 14) X dJ0_coder_7d493_10 (by decide) ?_
  exact j_ret (pc := 14) X rfl (by rfl) dJ0_coder_7d493_14
set_option maxHeartbeats 4000000 in
set_option maxRecDepth 100000 in
theorem c_J0_isLatin1 {x v : Nat} : JCon mJ0_isLatin1_aae02 x v [.ref x] 1 := by
  refine JCon.ofBW (al0 := [some (.ref x)]) (by decide) rfl (Nat.le_of_ble_eq_true rfl) rfl ?_
  intro l cA D p e s m args below meth c X G
  refine b_gets (pc := 0) X G.2.1 jf_38 dJ0_isLatin1_aae02_0 ?_
  refine b_if_eq (pc := 3) (tgt := 17) X dJ0_isLatin1_aae02_3 (by decide) (fun h => absurd h (by decide)) (fun _ => ?_)
  refine b_aload_n (pc := 6) X dJ0_isLatin1_aae02_6 rfl rfl ?_
  refine b_getX (pc := 7) X (G.1.1 0 (by omega)).2.1 jf_15 dJ0_isLatin1_aae02_7 ?_
  refine b_if_ne (pc := 10) (tgt := 17) X dJ0_isLatin1_aae02_10 (by decide) (fun h => absurd rfl h) (fun _ => ?_)
  refine b_iconst (pc := 13) (v := 1) X dJ0_isLatin1_aae02_13 (by decide) ?_
  refine b_goto (pc := 14) (tgt := 18) X dJ0_isLatin1_aae02_14 (by decide) ?_
  exact j_ret (pc := 18) X rfl (by rfl) dJ0_isLatin1_aae02_18
set_option maxHeartbeats 4000000 in
set_option maxRecDepth 100000 in
theorem c_J0_length {x v : Nat} : JCon mJ0_length_8abf5 x v [.ref x] 46 := by
  refine JCon.ofBW (al0 := [some (.ref x)]) (by decide) rfl (Nat.le_of_ble_eq_true rfl) rfl ?_
  intro l cA D p e s m args below meth c X G
  refine b_aload_n (pc := 0) X dJ0_length_8abf5_0 rfl rfl ?_
  refine b_getX (pc := 1) X (G.1.1 0 (by omega)).2.2.1 jf_9 dJ0_length_8abf5_1 ?_
  refine b_tlen (pc := 4) (v := 46) X (G.1.1 0 (by omega)).2.2.2 rfl dJ0_length_8abf5_4 ?_
  refine b_aload_n (pc := 5) X dJ0_length_8abf5_5 rfl rfl ?_
  refine b_callJV (pc := 6) (st := [.int 46]) (vs := []) X G jv_J0_335 rfl c_J0_coder ⟨Nat.le_of_ble_eq_true rfl, Nat.le_of_ble_eq_true rfl⟩ (Nat.le_of_ble_eq_true rfl) (Nat.le_of_ble_eq_true rfl) (Nat.le_of_ble_eq_true rfl) dJ0_length_8abf5_6 ?_
  refine b_ishr (pc := 9) X dJ0_length_8abf5_9 ?_
  refine BW.cast (st := [.int 46]) ?_ rfl (by decide) rfl
  exact j_ret (pc := 10) X rfl (by rfl) dJ0_length_8abf5_10
set_option maxHeartbeats 4000000 in
set_option maxRecDepth 100000 in
theorem c_J3_checkIndex {x v k : Nat} {w : Value} (hw : w.category = 1) (hk : k < 46) : JCon mJ3_checkIndex_8e157 x v [.int (nI k), .int 46, w] (nI k) := by
  refine JCon.ofBW (al0 := [some (.int (nI k)), some (.int 46), some w]) (by decide) (by simp [cat1, hw]; exact ⟨rfl, rfl⟩) (by show 3 ≤ 3; omega) rfl ?_
  intro l cA D p e s m args below meth c X G
  refine b_iload_n (pc := 0) X dJ3_checkIndex_8e157_0 rfl rfl ?_
  refine b_if_lt (pc := 1) (tgt := 9) X dJ3_checkIndex_8e157_1 (by decide) (fun h => absurd h (nI_nlt (b := 0) (by omega) (by omega))) (fun _ => ?_)
  refine b_iload_n (pc := 4) X dJ3_checkIndex_8e157_4 rfl rfl ?_
  refine b_iload_n (pc := 5) X dJ3_checkIndex_8e157_5 rfl rfl ?_
  refine b_icmp_lt (pc := 6) (tgt := 16) X dJ3_checkIndex_8e157_6 (by decide) (fun _ => ?_) (fun h => absurd (nI_lt (b := 46) hk (by omega)) h)
  refine b_iload_n (pc := 16) X dJ3_checkIndex_8e157_16 rfl rfl ?_
  exact j_ret (pc := 17) X rfl (vp_nar_int _) dJ3_checkIndex_8e157_17
set_option maxHeartbeats 4000000 in
set_option maxRecDepth 100000 in
theorem c_J0_checkIndex {x v k : Nat} (hk : k < 46) : JCon mJ0_checkIndex_df160 x v [.int (nI k), .int 46] 0 := by
  refine JCon.ofBW (al0 := [some (.int (nI k)), some (.int 46)]) (by decide) rfl (Nat.le_of_ble_eq_true rfl) rfl ?_
  intro l cA D p e s m args below meth c X G
  refine b_iload_n (pc := 0) X dJ0_checkIndex_df160_0 rfl rfl ?_
  refine b_iload_n (pc := 1) X dJ0_checkIndex_df160_1 rfl rfl ?_
  rcases G.2.2 with h | ⟨t, h⟩
  · refine b_gets (pc := 2) X h jf_1053 dJ0_checkIndex_df160_2 ?_
    refine b_callJS (pc := 5) (st := []) (vs := [.int (nI k), .int 46, .null]) X G js_J0_1059 rfl (c_J3_checkIndex rfl hk) ⟨Nat.le_of_ble_eq_true rfl, Nat.le_of_ble_eq_true rfl⟩ (Nat.le_of_ble_eq_true rfl) (Nat.le_of_ble_eq_true rfl) (Nat.le_of_ble_eq_true rfl) dJ0_checkIndex_df160_5 ?_
    refine b_pop (pc := 8) X dJ0_checkIndex_df160_8 rfl ?_
    exact j_retv (pc := 9) X rfl dJ0_checkIndex_df160_9
  · refine b_gets (pc := 2) X h jf_1053 dJ0_checkIndex_df160_2 ?_
    refine b_callJS (pc := 5) (st := []) (vs := [.int (nI k), .int 46, .ref t]) X G js_J0_1059 rfl (c_J3_checkIndex rfl hk) ⟨Nat.le_of_ble_eq_true rfl, Nat.le_of_ble_eq_true rfl⟩ (Nat.le_of_ble_eq_true rfl) (Nat.le_of_ble_eq_true rfl) (Nat.le_of_ble_eq_true rfl) dJ0_checkIndex_df160_5 ?_
    refine b_pop (pc := 8) X dJ0_checkIndex_df160_8 rfl ?_
    exact j_retv (pc := 9) X rfl dJ0_checkIndex_df160_9
theorem vp_in_chr {a : Nat} (h : a ≤ 126) : narrow .char (.int (nI a)) = .int (nI a) := by
  have : ∀ a, a < 127 → narrow .char (.int (nI a)) = .int (nI a) := by decide +kernel
  exact this a (by omega)
theorem fb_all : ∀ k, k < 46 → ((fbL.getD k 0 &&& 255).toUInt32 % 65536).toInt32 = nI (ftx k) ∧ 32 ≤ ftx k ∧ ftx k ≤ 126 := by decide +kernel
set_option maxHeartbeats 4000000 in
set_option maxRecDepth 100000 in
theorem c_J1_charAt {x v k : Nat} (hk : k < 46) : JCon mJ1_charAt_3b067 x v [.ref v, .int (nI k)] (nI (ftx k)) := by
  have hf := fb_all k hk
  refine JCon.ofBW (al0 := [some (.ref v), some (.int (nI k))]) (by decide) rfl (Nat.le_of_ble_eq_true rfl) rfl ?_
  intro l cA D p e s m args below meth c X G
  refine b_iload_n (pc := 0) X dJ1_charAt_3b067_0 rfl rfl ?_
  refine b_aload_n (pc := 1) X dJ1_charAt_3b067_1 rfl rfl ?_
  refine b_tlen (pc := 2) (v := 46) X (G.1.1 0 (by omega)).2.2.2 rfl dJ1_charAt_3b067_2 ?_
  refine b_callJSv (pc := 3) (st := []) (vs := [.int (nI k), .int 46]) X G js_J1_9 rfl (c_J0_checkIndex hk) ⟨Nat.le_of_ble_eq_true rfl, Nat.le_of_ble_eq_true rfl⟩ (Nat.le_of_ble_eq_true rfl) (Nat.le_of_ble_eq_true rfl) (Nat.le_of_ble_eq_true rfl) dJ1_charAt_3b067_3 ?_
  refine b_aload_n (pc := 6) X dJ1_charAt_3b067_6 rfl rfl ?_
  refine b_iload_n (pc := 7) X dJ1_charAt_3b067_7 rfl rfl ?_
  refine b_tb (pc := 8) (v := .int (fbL.getD k 0)) X (G.1.1 0 (by omega)).2.2.2 (vp_in_nI hk (by decide)) (by rw [nI_clamp (by omega)]; rfl) dJ1_charAt_3b067_8 ?_
  refine b_sipush (pc := 9) (v := 255) X dJ1_charAt_3b067_9 (by decide) ?_
  refine b_iand (pc := 12) X dJ1_charAt_3b067_12 ?_
  refine b_i2c (pc := 13) X dJ1_charAt_3b067_13 ?_
  refine BW.cast (st := [.int (nI (ftx k))]) ?_ rfl (by rw [hf.1]) rfl
  exact j_ret (pc := 14) X rfl (vp_in_chr hf.2.2) dJ1_charAt_3b067_14
set_option maxHeartbeats 4000000 in
set_option maxRecDepth 100000 in
theorem c_J0_charAt {x v k : Nat} (hk : k < 46) : JCon mJ0_charAt_5068e x v [.ref x, .int (nI k)] (nI (ftx k)) := by
  have hf := fb_all k hk
  refine JCon.ofBW (al0 := [some (.ref x), some (.int (nI k))]) (by decide) rfl (Nat.le_of_ble_eq_true rfl) rfl ?_
  intro l cA D p e s m args below meth c X G
  refine b_aload_n (pc := 0) X dJ0_charAt_5068e_0 rfl rfl ?_
  refine b_callJV (pc := 1) (st := []) (vs := []) X G jv_J0_492 rfl c_J0_isLatin1 ⟨Nat.le_of_ble_eq_true rfl, Nat.le_of_ble_eq_true rfl⟩ (Nat.le_of_ble_eq_true rfl) (Nat.le_of_ble_eq_true rfl) (Nat.le_of_ble_eq_true rfl) dJ0_charAt_5068e_1 ?_
  refine b_if_eq (pc := 4) (tgt := 16) X dJ0_charAt_5068e_4 (by decide) (fun h => absurd h (by decide)) (fun _ => ?_)
  refine b_aload_n (pc := 7) X dJ0_charAt_5068e_7 rfl rfl ?_
  refine b_getX (pc := 8) X (G.1.1 0 (by omega)).2.2.1 jf_9 dJ0_charAt_5068e_8 ?_
  refine b_iload_n (pc := 11) X dJ0_charAt_5068e_11 rfl rfl ?_
  refine b_callJS (pc := 12) (st := []) (vs := [.ref v, .int (nI k)]) X G js_J0_495 rfl (c_J1_charAt hk) ⟨Nat.le_of_ble_eq_true rfl, Nat.le_of_ble_eq_true rfl⟩ (Nat.le_of_ble_eq_true rfl) (Nat.le_of_ble_eq_true rfl) (Nat.le_of_ble_eq_true rfl) dJ0_charAt_5068e_12 ?_
  exact j_ret (pc := 15) X rfl (vp_in_chr hf.2.2) dJ0_charAt_5068e_15
