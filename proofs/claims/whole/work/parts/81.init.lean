/-! constructors: contracts, calls -/
def BPre (cA : Nat → ClassId) (D : va_G) (w0 : va_W) (vs : List Value) (sz : Nat) (a : Array Value) (U : State) : Prop := a = vs.toArray ∧ va_K D vwCl (tysA cA) U ∧ Fx U ∧ Nx U ∧ U.heap.size = sz ∧ va_P D vwCl w0 U.heap
def BQv (cA : Nat → ClassId) (D : va_G) (A : Nat → Prop) (h0 : Nat) (sh : Shp) (ex : (Nat → Nat) → Mem → Prop) : Array Value → State → Outcome → State → Prop := va_Qv (fun u : (Nat → Nat) × Mem => u.1 0 = h0 ∧ ex u.1 u.2) (fun u t => va_P D vwCl (wo sh u.1 cA u.2) t.heap ∧ va_D A (wo sh u.1 cA u.2)) A
def BCon (mt : Mt) (kc ks ci : Nat) (fs0 : List Value) (vs : List Value) (sh : Shp) (ex : (Nat → Nat) → Mem → Prop) : Prop := ∀ (l : Launch) (cA : Nat → ClassId) (D : va_G) (h0 sz : Nat),
  Met l mt.1 [.code mt.1 mt.2.1 mt.2.2.1 mt.2.2.2.1] (rmB mt kc ks) (BPre cA D [(h0, .inr (ci, fs0))] (.ref h0 :: vs) sz) (BQv cA D (va_A [(h0, .inr (ci, fs0))] sz) h0 sh ex) kc ks (va_A [(h0, .inr (ci, fs0))] sz)
abbrev BQ (cA : Nat → ClassId) (D : va_G) (A : Nat → Prop) (h0 : Nat) (sh : Shp) (ex : (Nat → Nat) → Mem → Prop) (kc ks : Nat) (below : List Frame) (args : Array Value) (s : State) : State → Prop := MQ below (BQv cA D A h0 sh ex) args s kc ks A
theorem D_one {A : Nat → Prop} {q : Nat} {e : va_E} (h : A q) : va_D A [(q, e)] := by
  refine ⟨fun i j x y hi hj _ => ?_, fun i x hi => ?_⟩
  · have h1 : i < 1 := (List.getElem?_eq_some_iff.mp hi).1
    have h2 : j < 1 := (List.getElem?_eq_some_iff.mp hj).1
    omega
  · have h1 : i < 1 := (List.getElem?_eq_some_iff.mp hi).1
    rw [show i = 0 by omega] at hi
    cases hi; exact h
theorem A_one {q sz x : Nat} {e : va_E} : va_A [(q, e)] sz x ↔ x = q ∨ sz ≤ x := by
  constructor
  · rintro (⟨k, e', h⟩ | h)
    · have h1 : k < 1 := (List.getElem?_eq_some_iff.mp h).1
      rw [show k = 0 by omega] at h
      cases h; exact Or.inl rfl
    · exact Or.inr h
  · rintro (rfl | h)
    · exact Or.inl ⟨0, e, rfl⟩
    · exact Or.inr h
/-- behind a constructor: what stood, and what was built -/
theorem join_new {A : Nat → Prop} {D : va_G} {Y w1 : va_W} {q : Nat} {e : va_E} {H H1 : Heap} (hP : va_P D vwCl (Y ++ [(q, e)]) H) (hD : va_D A (Y ++ [(q, e)])) (hk : ∀ x : Nat, x < H.size → ¬ va_A [(q, e)] H.size x → H1[x]? = H[x]?) (hA : ∀ x, H.size ≤ x → A x) (hP1 : va_P D vwCl w1 H1) (hD1 : va_D (va_A [(q, e)] H.size) w1) : va_P D vwCl (Y ++ w1) H1 ∧ va_D A (Y ++ w1) := by
  have hY : ∀ (i : Nat) (x : Nat × va_E), Y[i]? = some x → (Y ++ [(q, e)])[i]? = some x := fun i x h => by
    rw [List.getElem?_append_left (List.getElem?_eq_some_iff.mp h).1]; exact h
  have hq : (Y ++ [(q, e)])[Y.length]? = some (q, e) := by simp
  have ap : ∀ (i : Nat) (x : Nat × va_E), Y[i]? = some x → x.1 < H.size ∧ ¬ va_A [(q, e)] H.size x.1 := by
    intro i x h
    have hl := (hP i x (hY i x h)).lt
    refine ⟨hl, fun h2 => ?_⟩
    rcases A_one.mp h2 with h3 | h3
    · have := hD.1 i Y.length x (q, e) (hY i x h) hq h3
      have hi := (List.getElem?_eq_some_iff.mp h).1
      omega
    · omega
  refine ⟨va_P.app (fun i x h => ?_) hP1, va_D.app ⟨fun i j x y hi hj he => hD.1 i j x y (hY i x hi) (hY j y hj) he, fun i x h => hD.2 i x (hY i x h)⟩ (hD1.weaken (fun i x _ h => ?_)) (fun i j x y hx hy hxy => (ap i x hx).2 (by rw [hxy]; exact hD1.2 j y hy))⟩
  · obtain ⟨g1, g2⟩ := ap i x h
    exact (hP i x (hY i x h)).kept (hk x.1 g1 g2)
  · rcases A_one.mp h with h3 | h3
    · rw [h3]; exact hD.2 Y.length (q, e) hq
    · exact hA x.1 h3
theorem blind_B {cA : Nat → ClassId} {D : va_G} {w0 : va_W} {vs : List Value} {sz : Nat} : FrameBlind (BPre cA D w0 vs sz) := by
  intro a U g mk q
  obtain ⟨q1, q2, q3, q4, q5, q6⟩ := q
  exact ⟨q1, va_K.moved (u := U) (U := U.calling g mk a) (Vm.Alike.refl U.vm) q2, q3.same rfl, q4.same rfl, q5, q6⟩
def CI (own : String) (idx : Nat) (mt' : Mt) (n : Nat) : Prop := CKb own idx mt' n ∧ Cond.instanceMethod mt'.1 ∈ lw_tbl ∧ mt'.1.name = "<init>"
def CIN (mt' : Mt) (n : Nat) : Prop := Cond.initialized mt'.1.cls ∈ lw_tbl ∧ Cond.code mt'.1 mt'.2.1 mt'.2.2.1 none ∈ lw_tbl ∧ (mt'.1.cls ≠ "java/lang/invoke/MethodHandle" ∧ mt'.1.cls ≠ "java/lang/invoke/VarHandle") ∧ (parseMethodDescriptor mt'.1.desc).map (fun d => d.parameters.length) = some n ∧ Cond.instanceMethod mt'.1 ∈ lw_tbl ∧ mt'.1.name = "<init>"
def FitR (R : Room) (mt' : Mt) : Prop := mt'.2.2.2.2.1 + 1 ≤ R.frames ∧ 8 + (mt'.2.2.1 + 11) + mt'.2.2.2.2.2 ≤ R.locals
section INIT
variable {R : Room} {mt : Mt} {l : Launch} {cA : Nat → ClassId} {D : va_G} {A : Nat → Prop} {p : Program} {e : Env} {s : State} {m : MethodId} {args : Array Value} {below : List Frame} {meth : Method} {c : Code} {Q : State → Prop}
variable {k n pc : Nat} {al : List (Option Value)} {st : List Value} {ws : va_W}
theorem BCon.ofBW {kc ks ci : Nat} {fs0 vs : List Value} {sh : Shp} {ex : (Nat → Nat) → Mem → Prop} (hy : plainName mt.1.cls = true) (hi : mt.1.name = "<init>") (hc : cat1 vs = true) (hn : vs.length + 1 ≤ mt.2.2.1)
    (h : ∀ (l : Launch) (cA : Nat → ClassId) (D : va_G) (A : Nat → Prop) (p : Program) (e : Env) (s : State) (m : MethodId) (args : Array Value) (below : List Frame) (meth : Method) (c : Code) (h0 : Nat), Bx mt cA D A p s m meth c → meth.name = "<init>" → BW (rmB mt kc ks) mt l D A p e s m args below meth c (BQ cA D A h0 sh ex kc ks below args s) 0 0 0 (some (.ref h0) :: (vs.map some ++ List.replicate (mt.2.2.1 - (vs.length + 1)) none)) [] [(h0, .inr (ci, fs0))]) : BCon mt kc ks ci fs0 vs sh ex := by
  intro l cA D h0 sz
  refine Met.ofW (cc := mt.2.1) (maxL := mt.2.2.1) (ret := mt.2.2.2.1) hy rfl ?_
  intro p e s m args below meth c s₁ B hml hv
  obtain ⟨rfl, hK, hF, hN, rfl, hP⟩ := hv
  have hown : s.vm.findClass mt.1.cls = some m.cls := findClass_of_methodNamed B.named
  have hin : meth.name = "<init>" := by rw [(name_of_methodNamed B.named B.method).1, hi]
  have hc1 : ∀ v ∈ (Value.ref h0 :: vs), v.category = 1 := fun v hv => by
    rcases List.mem_cons.mp hv with rfl | hv
    · rfl
    · simpa using List.all_eq_true.mp hc v hv
  have hl := lv_entry (Value.ref h0 :: vs) (n := mt.2.2.1) (by rw [lg_sl1 _ hc1]; exact hn)
  rw [lg_entry_eq]
  refine h l cA D (va_A [(h0, .inr (ci, fs0))] s.heap.size) p e s m _ below meth c h0 ⟨⟨B.exec, B.bytes, hml, B.returns, B.notSynchronized, hown, hK, hF⟩, hN, fun q hq => Or.inr hq⟩ hin s.heap [] _ hP (D_one (A_one.mpr (Or.inl rfl))) va_S.rf ⟨hl.1, hl.2.1, fun q hq => ?_⟩
  obtain ⟨v, h1, h2⟩ := mem_toL.mp hq
  rw [cvl_id] at h2
  have h3 : (Value.ref h0 :: vs)[q.1]? = some v := by
    have e1 : (some (Value.ref h0) :: (vs.map some ++ List.replicate (mt.2.2.1 - (vs.length + 1)) none)) = (Value.ref h0 :: vs).map some ++ List.replicate (mt.2.2.1 - (vs.length + 1)) none := rfl
    rw [e1] at h1
    by_cases hq1 : q.1 < (Value.ref h0 :: vs).length
    · rw [List.getElem?_append_left (by rw [List.length_map]; exact hq1), List.getElem?_map] at h1
      cases hx : (Value.ref h0 :: vs)[q.1]? with
      | none => rw [hx] at h1; cases h1
      | some w => rw [hx] at h1; cases h1; rfl
    · rw [List.getElem?_append_right (by rw [List.length_map]; omega), List.getElem?_replicate] at h1
      split at h1 <;> cases h1
  have h4 := lv_args1 (Value.ref h0 :: vs) 0 hc1 q.1 v h3
  rw [Nat.zero_add, ← h2] at h4
  exact hl.2.2 q h4
theorem b_ret {kc ks h0 : Nat} {sh : Shp} {ex : (Nat → Nat) → Mem → Prop} {σ : Nat → Nat} {μ : Mem} (X : Bx mt cA D A p s m meth c) (hr : mt.2.2.2.1 = none) (hσ : σ 0 = h0) (hex : ex σ μ) (hw : ws = wo sh σ cA μ) (d : decode mt.2.1 pc = .ok (.return_, 1)) : BW R mt l D A p e s m args below meth c (BQ cA D A h0 sh ex kc ks below args s) kc ks pc al [] ws := by
  intro H locs ls P E S V
  have hret : meth.sig.returnType = none := X.1.2.2.2.1.trans hr
  have hlocks : meth.locks = false := X.1.2.2.2.2.1
  subst hw
  exact W.vret X.1.1 X.1.2.1 hret (fun t ht hW => ⟨⟨(σ, μ), rfl, ⟨hσ, hex⟩, by show va_P _ _ _ t.heap; rw [ht]; exact P, E⟩, S.F ht⟩) S.2.2 d
theorem b_init {mt' : Mt} {kc' ks' ci idx q : Nat} {fs0 vs : List Value} {sh : Shp} {ex : (Nat → Nat) → Mem → Prop} {Y : va_W} (X : Bx mt cA D A p s m meth c) (hCI : CI mt.1.cls idx mt' vs.length) (hr : mt'.2.2.2.1 = none) (hC : BCon mt' kc' ks' ci fs0 vs sh ex) (hf : FitR R mt') (hst : (st.map Value.category).sum ≤ 8) (hk : k + kc' ≤ R.cells) (hn : n + ks' ≤ R.slots) (d : decode mt.2.1 pc = .ok (.invokespecial idx, 3)) (kk : ∀ σ μ, σ 0 = q → ex σ μ → BW R mt l D A p e s m args below meth c Q (k + kc') (n + ks') (pc + 3) al st (Y ++ wo sh σ cA μ)) : BW R mt l D A p e s m args below meth c Q k n pc al (vs.reverse ++ .ref q :: st) (Y ++ [(q, .inr (ci, fs0))]) := by
  intro H locs ls P E S V
  obtain ⟨⟨h1, h2, h3, h4, h5⟩, h6, h7⟩ := hCI
  have hF := X.1.2.2.2.2.2.2.2
  have hK := X.1.2.2.2.2.2.2.1
  have hP1 : va_P D vwCl [(q, .inr (ci, fs0))] H := fun i x hx => by
    have hi : i < 1 := (List.getElem?_eq_some_iff.mp hx).1
    rw [show i = 0 by omega] at hx
    cases hx
    exact P Y.length _ (by simp)
  have hAq : A q := E.2 Y.length (q, .inr (ci, fs0)) (by simp)
  have hAA : ∀ x, va_A [(q, .inr (ci, fs0))] H.size x → A x := fun x hx => by
    rcases A_one.mp hx with rfl | hx
    · exact hAq
    · exact X.2.2 x (Nat.le_trans S.1 hx)
  refine va_callv (a := (Value.ref q :: vs).toArray) (va_runI (As := vs) (b := q) (rest := st) (Ts := []) (n := vs.length) (bytes := mt'.2.1) (maxL := mt'.2.2.1) ⟨X.1.1, X.1.2.1, X.1.2.2.1, X.1.2.2.2.2.2.1, fun w h => by cases h⟩ (hC l cA D q H.size) ⟨⟨rfl, rfl, hf.1, hf.2, fun w hw a' U hW => ?_, ?_, ?_, hF.use h2 rfl args, h4, fun sig hs => ?_, hF.use h1 rfl args⟩, h7, hF.use h6 rfl args⟩ ⟨blind_B, fun U hU hW => ⟨rfl, va_K.moved hW.alike hK, hF.warm hW, X.2.1.warm hW, by rw [hU], by rw [hU]; exact hP1⟩⟩ rfl rfl V.1 rfl (lv_room hst) d ⟨hk, hn⟩) S (fun x _ h => hAA x h) hAA (fun u t H1 locs1 ht hvm hw hB hz1 hk1 hS => ?_)
  · rw [List.mem_singleton.mp hw]
    exact (hF.warm hW).use h3 rfl a'
  · rw [hr]; exact List.mem_singleton.mpr rfl
  · rw [hr] at h3; exact hF.use h3 rfl args
  · rw [hs] at h5; exact (Option.some.inj h5).symm
  · obtain ⟨b1, b2⟩ := hB
    rw [ht] at b1
    obtain ⟨j1, j2⟩ := join_new P E hk1 (fun x hx => X.2.2 x (Nat.le_trans S.1 hx)) b1 b2
    exact kk u.1 u.2 hw.1 hw.2 H1 locs1 ls j1 j2 hS V
theorem b_initN {mt' : Mt} {kc' ks' ci idx q : Nat} {fs0 vs : List Value} {sh : Shp} {ex : (Nat → Nat) → Mem → Prop} {Y : va_W} (X : Bx mt cA D A p s m meth c) (hCI : CIN mt' vs.length) (hlk : va_Nw (.methodLinkNest mt.1.cls idx mt'.1 "HeardSlots") s) (hr : mt'.2.2.2.1 = none) (hC : BCon mt' kc' ks' ci fs0 vs sh ex) (hf : FitR R mt') (hst : (st.map Value.category).sum ≤ 8) (hk : k + kc' ≤ R.cells) (hn : n + ks' ≤ R.slots) (d : decode mt.2.1 pc = .ok (.invokespecial idx, 3)) (kk : ∀ σ μ, σ 0 = q → ex σ μ → BW R mt l D A p e s m args below meth c Q (k + kc') (n + ks') (pc + 3) al st (Y ++ wo sh σ cA μ)) : BW R mt l D A p e s m args below meth c Q k n pc al (vs.reverse ++ .ref q :: st) (Y ++ [(q, .inr (ci, fs0))]) := by
  intro H locs ls P E S V
  obtain ⟨h2, h3, h4, h5, h6, h7⟩ := hCI
  have hF := X.1.2.2.2.2.2.2.2
  have hK := X.1.2.2.2.2.2.2.1
  have hP1 : va_P D vwCl [(q, .inr (ci, fs0))] H := fun i x hx => by
    have hi : i < 1 := (List.getElem?_eq_some_iff.mp hx).1
    rw [show i = 0 by omega] at hx
    cases hx
    exact P Y.length _ (by simp)
  have hAq : A q := E.2 Y.length (q, .inr (ci, fs0)) (by simp)
  have hAA : ∀ x, va_A [(q, .inr (ci, fs0))] H.size x → A x := fun x hx => by
    rcases A_one.mp hx with rfl | hx
    · exact hAq
    · exact X.2.2 x (Nat.le_trans S.1 hx)
  refine va_callv (a := (Value.ref q :: vs).toArray) (va_runIN (As := vs) (b := q) (rest := st) (Ts := []) (n := vs.length) (bytes := mt'.2.1) (maxL := mt'.2.2.1) (host := "HeardSlots") ⟨X.1.1, X.1.2.1, X.1.2.2.1, X.1.2.2.2.2.2.1, fun w h => by cases h⟩ (hC l cA D q H.size) ⟨⟨⟨rfl, rfl, hf.1, hf.2, fun w hw a' U hW => ?_, ?_⟩, hF.use h3 rfl args, hF.use h2 rfl args, h4, fun sig hs => ?_, va_Nw.use rfl hlk⟩, h7, hF.use h6 rfl args⟩ ⟨blind_B, fun U hU hW => ⟨rfl, va_K.moved hW.alike hK, hF.warm hW, X.2.1.warm hW, by rw [hU], by rw [hU]; exact hP1⟩⟩ rfl rfl V.1 rfl (lv_room hst) d ⟨hk, hn⟩) S (fun x _ h => hAA x h) hAA (fun u t H1 locs1 ht hvm hw hB hz1 hk1 hS => ?_)
  · rw [List.mem_singleton.mp hw, hr]
    exact (hF.warm hW).use h3 rfl a'
  · rw [hr]; exact List.mem_singleton.mpr rfl
  · rw [hs] at h5; exact (Option.some.inj h5).symm
  · obtain ⟨b1, b2⟩ := hB
    rw [ht] at b1
    obtain ⟨j1, j2⟩ := join_new P E hk1 (fun x hx => X.2.2 x (Nat.le_trans S.1 hx)) b1 b2
    exact kk u.1 u.2 hw.1 hw.2 H1 locs1 ls j1 j2 hS V
end INIT
