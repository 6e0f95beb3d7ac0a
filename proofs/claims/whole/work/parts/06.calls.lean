/-! a method's contract out of its walk; calls -/
theorem lv_args1 : ∀ (vs : List Value) (i : Nat), (∀ v ∈ vs, v.category = 1) → ∀ (j : Nat) (v : Value), vs[j]? = some v → (i + j, v) ∈ lv_args i vs
  | [], _, _, j, v, h => by simp at h
  | w :: vs, i, hc, 0, v, h => by
    simp at h
    subst h
    exact List.mem_cons_self
  | w :: vs, i, hc, j + 1, v, h => by
    have hw : ¬ w.category = 2 := by rw [hc w List.mem_cons_self]; decide
    have h2 := lv_args1 vs (i + 1) (fun v hv => hc v (List.mem_cons_of_mem _ hv)) j v (by simpa using h)
    unfold lv_args
    rw [if_neg hw]
    refine List.mem_cons_of_mem _ ?_
    rw [show i + (j + 1) = i + 1 + j by omega]
    exact h2
theorem lg_sl1 : ∀ (vs : List Value), (∀ v ∈ vs, v.category = 1) → (lg_sl vs).length = vs.length
  | [], _ => rfl
  | w :: vs, hc => by
    have hw : ¬ w.category = 2 := by rw [hc w List.mem_cons_self]; decide
    have h2 := lg_sl1 vs (fun v hv => hc v (List.mem_cons_of_mem _ hv))
    unfold lg_sl at h2 ⊢
    rw [List.flatMap_cons, if_neg hw, List.length_append, h2]
    simp [Nat.add_comm]
def cat1 (vs : List Value) : Bool := vs.all (fun v => v.category == 1)
section CALLS
variable {sh : Shp} {mt : Mt} {pc : Nat} {al : List (Option Value)} {st : List Value} {μ : Mem} {Q : Int32 → Mem → Prop}
theorem Con.ofAW {vs : List Value} {al0 : List (Option Value)} (hy : plainName mt.1.cls = true) (hc : cat1 vs = true) (hn : vs.length ≤ mt.2.2.1) (ha : vs.map some ++ List.replicate (mt.2.2.1 - vs.length) none = al0) (h : AW sh mt 0 al0 [] μ Q) : Con sh mt vs μ Q := by
  intro l σ cA D A
  refine Met.ofW (cc := mt.2.1) (maxL := mt.2.2.1) (ret := mt.2.2.2.1) hy rfl ?_
  intro p e s m args below meth c s₁ B hml hv
  obtain ⟨rfl, hK, hF, hR⟩ := hv
  have hown : s.vm.findClass mt.1.cls = some m.cls := findClass_of_methodNamed B.named
  have hc1 : ∀ v ∈ vs, v.category = 1 := fun v hv => by simpa using List.all_eq_true.mp hc v hv
  have hc' : ∀ v ∈ vs.map (cvl σ), v.category = 1 := by
    intro v hv
    obtain ⟨w, hw, rfl⟩ := List.mem_map.mp hv
    rw [cvl_cat]; exact hc1 w hw
  have hl := lv_entry (vs.map (cvl σ)) (n := mt.2.2.1) (by rw [lg_sl1 _ hc', List.length_map]; exact hn)
  rw [lg_entry_eq]
  refine h l σ cA D A p e s m _ below meth c s.heap [] _ ⟨B.exec, B.bytes, hml, B.returns, B.notSynchronized, hown, hK, hF⟩ hR va_S.rf ⟨hl.1, hl.2.1, fun q hq => ?_⟩
  obtain ⟨v, h1, h2⟩ := mem_toL.mp hq
  have h3 : vs[q.1]? = some v := by
    rw [← ha] at h1
    by_cases hq1 : q.1 < vs.length
    · rw [List.getElem?_append_left (by rw [List.length_map]; exact hq1), List.getElem?_map] at h1
      cases hx : vs[q.1]? with
      | none => rw [hx] at h1; cases h1
      | some w => rw [hx] at h1; cases h1; rfl
    · rw [List.getElem?_append_right (by rw [List.length_map]; omega), List.getElem?_replicate] at h1
      split at h1 <;> cases h1
  have h4 := lv_args1 (vs.map (cvl σ)) 0 hc' q.1 (cvl σ v) (by rw [List.getElem?_map, h3]; rfl)
  rw [Nat.zero_add, ← h2] at h4
  exact hl.2.2 q h4
theorem Qc_mono {ret : Option FieldType} {σ : Nat → Nat} {cA : Nat → ClassId} {D : va_G} {A : Nat → Prop} {Q' : Int32 → Mem → Prop} (hq : ∀ r u, Q r u → Q' r u) {a : Array Value} {s t : State} {o : Outcome} (h : Qc sh ret σ cA D A Q a s o t) : Qc sh ret σ cA D A Q' a s o t := by
  cases ret with
  | none =>
    obtain ⟨⟨u, q1, q2, q3⟩, q4⟩ := h
    exact ⟨⟨u, q1, hq _ _ q2, q3⟩, q4⟩
  | some ty =>
    obtain ⟨⟨r, u, q1, q2, q3⟩, q4⟩ := h
    exact ⟨⟨r, u, q1, hq _ _ q2, q3⟩, q4⟩
theorem AW.mono {Q' : Int32 → Mem → Prop} (h : AW sh mt pc al st μ Q) (hq : ∀ r u, Q r u → Q' r u) : AW sh mt pc al st μ Q' := by
  intro l σ cA D A p e s m args below meth c H locs ls X R S V T hT Y
  obtain ⟨t, h1, o, h2, h3, h4, h5⟩ := h l σ cA D A p e s m args below meth c H locs ls X R S V T hT Y
  exact ⟨t, h1, o, h2, h3, Qc_mono hq h4, h5⟩
/-- what the tables say of a call: virtual (own or nest), static -/
def CKb (own : String) (idx : Nat) (mt' : Mt) (n : Nat) : Prop := Cond.methodLink own idx mt'.1 ∈ lw_tbl ∧ Cond.initialized mt'.1.cls ∈ lw_tbl ∧ Cond.code mt'.1 mt'.2.1 mt'.2.2.1 mt'.2.2.2.1 ∈ lw_tbl ∧ (mt'.1.cls ≠ "java/lang/invoke/MethodHandle" ∧ mt'.1.cls ≠ "java/lang/invoke/VarHandle") ∧ (parseMethodDescriptor mt'.1.desc).map (fun d => d.parameters.length) = some n
def CK (own : String) (idx : Nat) (mt' : Mt) (n ci : Nat) : Prop := CKb own idx mt' n ∧ Cond.instanceMethod mt'.1 ∈ lw_tbl ∧ Cond.selects mt'.1.cls mt'.1 mt'.1 ∈ lw_tbl ∧ ∃ T N, vwCl[ci]? = some (mt'.1.cls, T, N)
def CS (own : String) (idx : Nat) (mt' : Mt) (n : Nat) : Prop := CKb own idx mt' n ∧ Cond.static mt'.1 ∈ lw_tbl
def Fits (mt mt' : Mt) : Prop := mt'.2.2.2.2.1 + 1 ≤ mt.2.2.2.2.1 ∧ 8 + (mt'.2.2.1 + 11) + mt'.2.2.2.2.2 ≤ mt.2.2.2.2.2
theorem callB_Fx {s : State} {args : Array Value} {own : String} {idx n : Nat} {mt' : Mt} (hF : Fx s) (h : CKb own idx mt' n) (hf : Fits mt mt') : CallB (rmOf mt) s args own idx mt'.1 mt'.2.1 mt'.2.2.1 mt'.2.2.2.1 [.code mt'.1 mt'.2.1 mt'.2.2.1 mt'.2.2.2.1] (rmOf mt') 0 0 n := by
  obtain ⟨h1, h2, h3, h4, h5⟩ := h
  refine ⟨rfl, rfl, hf.1, hf.2, fun w hw a' U hW => ?_, List.mem_singleton.mpr rfl, hF.use h3 rfl args, hF.use h2 rfl args, h4, fun sig hs => ?_, hF.use h1 rfl args⟩
  · rw [List.mem_singleton.mp hw]
    exact (hF.warm hW).use h3 rfl a'
  · rw [hs] at h5
    exact (Option.some.inj h5).symm
theorem blind_Pc {vs : List Value} {σ : Nat → Nat} {cA : Nat → ClassId} {D : va_G} {A : Nat → Prop} : FrameBlind (fun a U => a = (vs.map (cvl σ)).toArray ∧ va_K D vwCl (tysA cA) U ∧ Fx U ∧ Rp sh σ cA D A μ U.heap) := by
  intro a U g mk q
  obtain ⟨q1, q2, q3, q4⟩ := q
  exact ⟨q1, va_K.moved (u := U) (U := U.calling g mk a) (Vm.Alike.refl U.vm) q2, q3.same rfl, q4⟩
theorem a_callV {mt' : Mt} {idx n ci nn b : Nat} {fs : List (Option Nat)} {As : List Value} {Q' : Int32 → Mem → Prop} (ck : CK mt.1.cls idx mt' n ci) (hf : Fits mt mt') (hs : sh[b]? = some (ci, nn, fs)) (hci : ci < 100) (hn : As.length = n) (hst : (st.map Value.category).sum ≤ 8) (d : decode mt.2.1 pc = .ok (.invokevirtual idx, 3)) (hr : mt'.2.2.2.1 = none) (hC : Con sh mt' (.ref b :: As) μ Q') (kk : ∀ u, Q' 0 u → AW sh mt (pc + 3) al st u Q) : AW sh mt pc al (As.reverse ++ .ref b :: st) μ Q := by
  intro l σ cA D A p e s m args below meth c H locs ls X R S V
  obtain ⟨ck1, ck2, ck3, T, N, ck4⟩ := ck
  have hF := X.2.2.2.2.2.2.2
  have hK := X.2.2.2.2.2.2.1
  have he := wo_at (σ := σ) (cA := cA) (μ := μ) hs
  rw [cel_obj hci] at he
  have hM := hC l σ cA D A
  rw [hr] at hM
  refine va_callv (a := ((Value.ref b :: As).map (cvl σ)).toArray) (va_runV (As := As.map (cvl σ)) (b := σ b) (rest := st.map (cvl σ)) (C := mt'.1.cls) (Ts := []) ⟨X.1, X.2.1, X.2.2.1, X.2.2.2.2.2.1, fun w h => by cases h⟩ hM ⟨hr ▸ callB_Fx hF ck1 hf, hF.use ck2 rfl args, hF.use ck3 rfl args⟩ ⟨blind_Pc, va_recv hK R.1 ck4 he, fun U hU hW => ⟨rfl, va_K.moved hW.alike hK, hF.warm hW, by rw [hU]; exact R⟩⟩ rfl (by rw [List.length_map]; exact hn) V.1 (by simp [cvl]) (lv_room (by rw [map_cat]; exact hst)) d ⟨Nat.le_refl _, Nat.le_refl _⟩) S (fun q _ h => h) (fun q h => h) (fun u t H1 locs1 ht hvm hw hB hz1 hk1 hS => ?_)
  rw [ht] at hB
  exact kk u hw l σ cA D A p e s m args below meth c H1 locs1 ls X hB hS V
theorem a_callI {mt' : Mt} {idx n ci nn b : Nat} {fs : List (Option Nat)} {As : List Value} {Q' : Int32 → Mem → Prop} {ty : FieldType} (ck : CK mt.1.cls idx mt' n ci) (hf : Fits mt mt') (hs : sh[b]? = some (ci, nn, fs)) (hci : ci < 100) (hn : As.length = n) (hst : (st.map Value.category).sum ≤ 8) (d : decode mt.2.1 pc = .ok (.invokevirtual idx, 3)) (hr : mt'.2.2.2.1 = some ty) (hC : Con sh mt' (.ref b :: As) μ Q') (kk : ∀ r u, Q' r u → AW sh mt (pc + 3) al (.int r :: st) u Q) : AW sh mt pc al (As.reverse ++ .ref b :: st) μ Q := by
  intro l σ cA D A p e s m args below meth c H locs ls X R S V
  obtain ⟨ck1, ck2, ck3, T, N, ck4⟩ := ck
  have hF := X.2.2.2.2.2.2.2
  have hK := X.2.2.2.2.2.2.1
  have he := wo_at (σ := σ) (cA := cA) (μ := μ) hs
  rw [cel_obj hci] at he
  have hM := hC l σ cA D A
  rw [hr] at hM
  refine va_calli (a := ((Value.ref b :: As).map (cvl σ)).toArray) (va_runV (As := As.map (cvl σ)) (b := σ b) (rest := st.map (cvl σ)) (C := mt'.1.cls) (Ts := []) ⟨X.1, X.2.1, X.2.2.1, X.2.2.2.2.2.1, fun w h => by cases h⟩ hM ⟨hr ▸ callB_Fx hF ck1 hf, hF.use ck2 rfl args, hF.use ck3 rfl args⟩ ⟨blind_Pc, va_recv hK R.1 ck4 he, fun U hU hW => ⟨rfl, va_K.moved hW.alike hK, hF.warm hW, by rw [hU]; exact R⟩⟩ rfl (by rw [List.length_map]; exact hn) V.1 (by simp [cvl]) (lv_room (by rw [map_cat]; exact hst)) d ⟨Nat.le_refl _, Nat.le_refl _⟩) S (fun q _ h => h) (fun q h => h) (fun r u t H1 locs1 ht hvm hw hB hz1 hk1 hS => ?_)
  rw [ht] at hB
  exact kk r u hw l σ cA D A p e s m args below meth c H1 locs1 ls X hB hS V
theorem a_callS {mt' : Mt} {idx n : Nat} {As : List Value} {Q' : Int32 → Mem → Prop} {ty : FieldType} (ck : CS mt.1.cls idx mt' n) (hf : Fits mt mt') (hn : As.length = n) (hst : (st.map Value.category).sum ≤ 8) (d : decode mt.2.1 pc = .ok (.invokestatic idx, 3)) (hr : mt'.2.2.2.1 = some ty) (hC : Con sh mt' As μ Q') (kk : ∀ r u, Q' r u → AW sh mt (pc + 3) al (.int r :: st) u Q) : AW sh mt pc al (As.reverse ++ st) μ Q := by
  intro l σ cA D A p e s m args below meth c H locs ls X R S V
  obtain ⟨ck1, ck2⟩ := ck
  have hF := X.2.2.2.2.2.2.2
  have hK := X.2.2.2.2.2.2.1
  have hM := hC l σ cA D A
  rw [hr] at hM
  refine va_calli (a := (As.map (cvl σ)).toArray) (va_runS (As := As.map (cvl σ)) (rest := st.map (cvl σ)) (Ts := []) ⟨X.1, X.2.1, X.2.2.1, X.2.2.2.2.2.1, fun w h => by cases h⟩ hM ⟨hr ▸ callB_Fx hF ck1 hf, hF.use ck2 rfl args⟩ ⟨blind_Pc, fun U hU hW => ⟨rfl, va_K.moved hW.alike hK, hF.warm hW, by rw [hU]; exact R⟩⟩ rfl (by rw [List.length_map]; exact hn) V.1 (by simp) (lv_room (by rw [map_cat]; exact hst)) d ⟨Nat.le_refl _, Nat.le_refl _⟩) S (fun q _ h => h) (fun q h => h) (fun r u t H1 locs1 ht hvm hw hB hz1 hk1 hS => ?_)
  rw [ht] at hB
  exact kk r u hw l σ cA D A p e s m args below meth c H1 locs1 ls X hB hS V
/-- the one call of a nest mate's private method: HeardSlots.drawnNumber out of Net -/
theorem a_callN {mt' : Mt} {As : List Value} {Q' : Int32 → Mem → Prop} {ty : FieldType} (hown : mt.1.cls = RX2) (hy : mt'.1 = yX6_drawnNumber) (h2 : Cond.initialized mt'.1.cls ∈ lw_tbl) (h3 : Cond.code mt'.1 mt'.2.1 mt'.2.2.1 mt'.2.2.2.1 ∈ lw_tbl) (h4 : Cond.static mt'.1 ∈ lw_tbl) (hf : Fits mt mt') (hn : As.length = 3) (hst : (st.map Value.category).sum ≤ 8) (d : decode mt.2.1 pc = .ok (.invokestatic 96, 3)) (hr : mt'.2.2.2.1 = some ty) (hC : Con sh mt' As μ Q') (kk : ∀ r u, Q' r u → AW sh mt (pc + 3) al (.int r :: st) u Q) : AW sh mt pc al (As.reverse ++ st) μ Q := by
  intro l σ cA D A p e s m args below meth c H locs ls X R S V
  have hF := X.2.2.2.2.2.2.2
  have hK := X.2.2.2.2.2.2.1
  have hM := hC l σ cA D A
  rw [hr] at hM
  refine va_calli (a := (As.map (cvl σ)).toArray) (va_runSN (As := As.map (cvl σ)) (rest := st.map (cvl σ)) (Ts := []) (n := 3) (bytes := mt'.2.1) (maxL := mt'.2.2.1) (ret := some ty) (host := "HeardSlots") ⟨X.1, X.2.1, X.2.2.1, X.2.2.2.2.2.1, fun w h => by cases h⟩ hM ⟨⟨⟨rfl, rfl, hf.1, hf.2, fun w hw a' U hW => ?_, List.mem_singleton.mpr rfl⟩, hr ▸ hF.use h3 rfl args, hF.use h2 rfl args, ?_, fun sig hs => ?_, ?_⟩, hF.use h4 rfl args, trivial⟩ ⟨blind_Pc, fun U hU hW => ⟨rfl, va_K.moved hW.alike hK, hF.warm hW, by rw [hU]; exact R⟩⟩ rfl (by rw [List.length_map]; exact hn) V.1 (by simp) (lv_room (by rw [map_cat]; exact hst)) d ⟨Nat.le_refl _, Nat.le_refl _⟩) S (fun q _ h => h) (fun q h => h) (fun r u t H1 locs1 ht hvm hw hB hz1 hk1 hS => ?_)
  · rw [List.mem_singleton.mp hw]
    exact (hF.warm hW).use (hr ▸ h3) rfl a'
  · rw [hy]; exact ⟨by decide +kernel, by decide +kernel⟩
  · rw [hy] at hs
    have h5 : (parseMethodDescriptor yX6_drawnNumber.desc).map (fun d => d.parameters.length) = some 3 := by decide +kernel
    rw [hs] at h5
    exact (Option.some.inj h5).symm
  · rw [hown, hy]
    exact va_Nw.use rfl hF.2
  · rw [ht] at hB
    exact kk r u hw l σ cA D A p e s m args below meth c H1 locs1 ls X hB hS V
end CALLS
