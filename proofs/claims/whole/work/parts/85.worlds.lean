/-! a whole world, and calls of the contracts of old, out of a constructor and out of the law -/
theorem D_addr {A : Nat → Prop} {w w' : va_W} (h : w.map Prod.fst = w'.map Prod.fst) (hD : va_D A w) : va_D A w' := by
  have at' : ∀ (i : Nat) (q : Nat × va_E), w'[i]? = some q → ∃ e, w[i]? = some (q.1, e) := by
    intro i q hq
    have h1 : (w'.map Prod.fst)[i]? = some q.1 := by rw [List.getElem?_map, hq]; rfl
    rw [← h, List.getElem?_map] at h1
    cases hx : w[i]? with
    | none => rw [hx] at h1; cases h1
    | some x =>
      rw [hx] at h1
      have e : x.1 = q.1 := Option.some.inj h1
      exact ⟨x.2, by rw [← e]⟩
  refine ⟨fun i j x y hi hj e => ?_, fun i x hi => ?_⟩
  · obtain ⟨e1, h1⟩ := at' i x hi
    obtain ⟨e2, h2⟩ := at' j y hj
    exact hD.1 i j _ _ h1 h2 e
  · obtain ⟨e1, h1⟩ := at' i x hi
    exact hD.2 i (x.1, e1) h1
theorem wo_addr {sh : Shp} {σ : Nat → Nat} {cA : Nat → ClassId} {μ u : Mem} : (wo sh σ cA μ).map Prod.fst = (wo sh σ cA u).map Prod.fst := by
  unfold wo
  apply List.ext_getElem?
  intro i
  rw [List.getElem?_map, List.getElem?_map, List.getElem?_mapIdx, List.getElem?_mapIdx]
  cases sh[i]? <;> rfl
/-- the addresses of a world -/
def inW (w : va_W) : Nat → Prop := fun q => ∃ (i : Nat) (e : va_E), w[i]? = some (q, e)
theorem mid_at {Y M Z : va_W} {i : Nat} {q : Nat × va_E} (h : M[i]? = some q) : (Y ++ (M ++ Z))[Y.length + i]? = some q := by
  rw [List.getElem?_append_right (by omega), show Y.length + i - Y.length = i by omega, List.getElem?_append_left (List.getElem?_eq_some_iff.mp h).1]; exact h
theorem mid_P {D : va_G} {Y M Z : va_W} {H : Heap} (P : va_P D vwCl (Y ++ (M ++ Z)) H) : va_P D vwCl M H := fun i q h => P (Y.length + i) q (mid_at h)
theorem mid_D {A : Nat → Prop} {Y M Z : va_W} (E : va_D A (Y ++ (M ++ Z))) : va_D (inW M) M := ⟨fun i j x y hi hj e => by
  have := E.1 _ _ x y (mid_at (Y := Y) (Z := Z) hi) (mid_at (Y := Y) (Z := Z) hj) e
  omega, fun i x hi => ⟨i, x.2, hi⟩⟩
theorem mid_in {A : Nat → Prop} {Y M Z : va_W} (E : va_D A (Y ++ (M ++ Z))) : ∀ q, inW M q → A q := fun q h => by
  obtain ⟨i, e, hi⟩ := h
  exact E.2 _ _ (mid_at hi)
theorem mid_join {A : Nat → Prop} {D : va_G} {Y M M' Z : va_W} {H H1 : Heap} (P : va_P D vwCl (Y ++ (M ++ Z)) H) (E : va_D A (Y ++ (M ++ Z))) (ha : M.map Prod.fst = M'.map Prod.fst) (hk : ∀ q : Nat, q < H.size → ¬ inW M q → H1[q]? = H[q]?) (P1 : va_P D vwCl M' H1) : va_P D vwCl (Y ++ (M' ++ Z)) H1 ∧ va_D A (Y ++ (M' ++ Z)) := by
  refine ⟨va_P.app (fun i q h => ?_) (va_P.app P1 (fun i q h => ?_)), D_addr (by rw [List.map_append, List.map_append, List.map_append, List.map_append, ha]) E⟩
  · have h1 : (Y ++ (M ++ Z))[i]? = some q := by rw [List.getElem?_append_left (List.getElem?_eq_some_iff.mp h).1]; exact h
    refine (P i q h1).kept (hk q.1 (P i q h1).lt (fun w => ?_))
    obtain ⟨j, e, hj⟩ := w
    have := E.1 i (Y.length + j) q (q.1, e) h1 (mid_at hj) rfl
    have := (List.getElem?_eq_some_iff.mp h).1
    omega
  · have h1 : (Y ++ (M ++ Z))[Y.length + (M.length + i)]? = some q := by
      rw [List.getElem?_append_right (by omega), show Y.length + (M.length + i) - Y.length = M.length + i by omega, List.getElem?_append_right (by omega), show M.length + i - M.length = i by omega]; exact h
    refine (P _ q h1).kept (hk q.1 (P _ q h1).lt (fun w => ?_))
    obtain ⟨j, e, hj⟩ := w
    have := E.1 _ (Y.length + j) q (q.1, e) h1 (mid_at hj) rfl
    have := (List.getElem?_eq_some_iff.mp hj).1
    omega
section WORLDS
variable {R : Room} {mt : Mt} {l : Launch} {cA : Nat → ClassId} {D : va_G} {A : Nat → Prop} {p : Program} {e : Env} {s : State} {m : MethodId} {args : Array Value} {below : List Frame} {meth : Method} {c : Code} {Q : State → Prop}
variable {k n pc : Nat} {al : List (Option Value)} {st : List Value} {ws : va_W} {sh : Shp} {σ : Nat → Nat} {μ : Mem} {Y Z : va_W}
theorem b_conV {mt' : Mt} {idx nn ci N b : Nat} {fs : List (Option Nat)} {As : List Value} {Q' : Int32 → Mem → Prop} (X : Bx mt cA D A p s m meth c) (ck : CK mt.1.cls idx mt' nn ci) (hf : FitR R mt') (hs : sh[b]? = some (ci, N, fs)) (hci : ci < 100) (hn : As.length = nn) (hst : (st.map Value.category).sum ≤ 8) (hk : k ≤ R.cells) (hl : n ≤ R.slots) (d : decode mt.2.1 pc = .ok (.invokevirtual idx, 3)) (hr : mt'.2.2.2.1 = none) (hC : Con sh mt' (.ref b :: As) μ Q') (kk : ∀ u, Q' 0 u → BW R mt l D A p e s m args below meth c Q k n (pc + 3) al st (Y ++ (wo sh σ cA u ++ Z))) : BW R mt l D A p e s m args below meth c Q k n pc al ((As.map (cvl σ)).reverse ++ .ref (σ b) :: st) (Y ++ (wo sh σ cA μ ++ Z)) := by
  intro H locs ls P E S V
  obtain ⟨ck1, ck2, ck3, T, N', ck4⟩ := ck
  have hF := X.1.2.2.2.2.2.2.2
  have hK := X.1.2.2.2.2.2.2.1
  have he := wo_at (σ := σ) (cA := cA) (μ := μ) hs
  rw [cel_obj hci] at he
  have hM := hC l σ cA D (inW (wo sh σ cA μ))
  rw [hr] at hM
  refine va_callv (a := ((Value.ref b :: As).map (cvl σ)).toArray) (va_runV (As := As.map (cvl σ)) (b := σ b) (rest := st) (C := mt'.1.cls) (Ts := []) ⟨X.1.1, X.1.2.1, X.1.2.2.1, X.1.2.2.2.2.2.1, fun w h => by cases h⟩ hM ⟨hr ▸ callB_R hF ck1 hf, hF.use ck2 rfl args, hF.use ck3 rfl args⟩ ⟨blind_Pc, va_recv hK (mid_P P) ck4 he, fun U hU hW => ⟨rfl, va_K.moved hW.alike hK, hF.warm hW, by rw [hU]; exact ⟨mid_P P, mid_D E⟩⟩⟩ rfl (by rw [List.length_map]; exact hn) V.1 rfl (lv_room hst) d ⟨hk, hl⟩) S (fun q _ h => mid_in E q h) (mid_in E) (fun u t H1 locs1 ht hvm hw hB hz1 hk1 hS => ?_)
  rw [ht] at hB
  obtain ⟨j1, j2⟩ := mid_join P E wo_addr hk1 hB.1
  exact kk u hw H1 locs1 ls j1 j2 hS V
theorem b_conI {mt' : Mt} {idx nn ci N b : Nat} {fs : List (Option Nat)} {As : List Value} {Q' : Int32 → Mem → Prop} {ty : FieldType} (X : Bx mt cA D A p s m meth c) (ck : CK mt.1.cls idx mt' nn ci) (hf : FitR R mt') (hs : sh[b]? = some (ci, N, fs)) (hci : ci < 100) (hn : As.length = nn) (hst : (st.map Value.category).sum ≤ 8) (hk : k ≤ R.cells) (hl : n ≤ R.slots) (d : decode mt.2.1 pc = .ok (.invokevirtual idx, 3)) (hr : mt'.2.2.2.1 = some ty) (hC : Con sh mt' (.ref b :: As) μ Q') (kk : ∀ r u, Q' r u → BW R mt l D A p e s m args below meth c Q k n (pc + 3) al (.int r :: st) (Y ++ (wo sh σ cA u ++ Z))) : BW R mt l D A p e s m args below meth c Q k n pc al ((As.map (cvl σ)).reverse ++ .ref (σ b) :: st) (Y ++ (wo sh σ cA μ ++ Z)) := by
  intro H locs ls P E S V
  obtain ⟨ck1, ck2, ck3, T, N', ck4⟩ := ck
  have hF := X.1.2.2.2.2.2.2.2
  have hK := X.1.2.2.2.2.2.2.1
  have he := wo_at (σ := σ) (cA := cA) (μ := μ) hs
  rw [cel_obj hci] at he
  have hM := hC l σ cA D (inW (wo sh σ cA μ))
  rw [hr] at hM
  refine va_calli (a := ((Value.ref b :: As).map (cvl σ)).toArray) (va_runV (As := As.map (cvl σ)) (b := σ b) (rest := st) (C := mt'.1.cls) (Ts := []) ⟨X.1.1, X.1.2.1, X.1.2.2.1, X.1.2.2.2.2.2.1, fun w h => by cases h⟩ hM ⟨hr ▸ callB_R hF ck1 hf, hF.use ck2 rfl args, hF.use ck3 rfl args⟩ ⟨blind_Pc, va_recv hK (mid_P P) ck4 he, fun U hU hW => ⟨rfl, va_K.moved hW.alike hK, hF.warm hW, by rw [hU]; exact ⟨mid_P P, mid_D E⟩⟩⟩ rfl (by rw [List.length_map]; exact hn) V.1 rfl (lv_room hst) d ⟨hk, hl⟩) S (fun q _ h => mid_in E q h) (mid_in E) (fun r u t H1 locs1 ht hvm hw hB hz1 hk1 hS => ?_)
  rw [ht] at hB
  obtain ⟨j1, j2⟩ := mid_join P E wo_addr hk1 hB.1
  exact kk r u hw H1 locs1 ls j1 j2 hS V
theorem b_conV1 {mt' : Mt} {idx nn ci N b : Nat} {fs : List (Option Nat)} {As : List Value} {Q' : Int32 → Mem → Prop} (X : Bx mt cA D A p s m meth c) (ck : CK mt.1.cls idx mt' nn ci) (hf : FitR R mt') (hs : sh[b]? = some (ci, N, fs)) (hci : ci < 100) (hn : As.length = nn) (hst : (st.map Value.category).sum ≤ 8) (hk : k ≤ R.cells) (hl : n ≤ R.slots) (d : decode mt.2.1 pc = .ok (.invokevirtual idx, 3)) (hr : mt'.2.2.2.1 = none) (hC : Con sh mt' (.ref b :: As) μ Q') (kk : ∀ u, Q' 0 u → BW R mt l D A p e s m args below meth c Q k n (pc + 3) al st (wo sh σ cA u)) : BW R mt l D A p e s m args below meth c Q k n pc al ((As.map (cvl σ)).reverse ++ .ref (σ b) :: st) (wo sh σ cA μ) :=
  BW.cast (b_conV (Y := []) (Z := []) X ck hf hs hci hn hst hk hl d hr hC (fun u hu => BW.cast (kk u hu) rfl rfl (by simp))) rfl rfl (by simp)
theorem b_conI1 {mt' : Mt} {idx nn ci N b : Nat} {fs : List (Option Nat)} {As : List Value} {Q' : Int32 → Mem → Prop} {ty : FieldType} (X : Bx mt cA D A p s m meth c) (ck : CK mt.1.cls idx mt' nn ci) (hf : FitR R mt') (hs : sh[b]? = some (ci, N, fs)) (hci : ci < 100) (hn : As.length = nn) (hst : (st.map Value.category).sum ≤ 8) (hk : k ≤ R.cells) (hl : n ≤ R.slots) (d : decode mt.2.1 pc = .ok (.invokevirtual idx, 3)) (hr : mt'.2.2.2.1 = some ty) (hC : Con sh mt' (.ref b :: As) μ Q') (kk : ∀ r u, Q' r u → BW R mt l D A p e s m args below meth c Q k n (pc + 3) al (.int r :: st) (wo sh σ cA u)) : BW R mt l D A p e s m args below meth c Q k n pc al ((As.map (cvl σ)).reverse ++ .ref (σ b) :: st) (wo sh σ cA μ) :=
  BW.cast (b_conI (Y := []) (Z := []) X ck hf hs hci hn hst hk hl d hr hC (fun r u hu => BW.cast (kk r u hu) rfl rfl (by simp))) rfl rfl (by simp)
theorem b_putw {o ci N k0 index : Nat} {fs : List (Option Nat)} {v : Int32} (X : Bx mt cA D A p s m meth c) (hfl : FP mt.1.cls index ci k0 .int) (hs : sh[o]? = some (ci, N, fs)) (hc : ci < 100) (hk : fs[k0]? = some none) (d : decode mt.2.1 pc = .ok (.putfield index, 3)) (kk : BW R mt l D A p e s m args below meth c Q k n (pc + 3) al st (wo sh σ cA (up2 μ o k0 v))) : BW R mt l D A p e s m args below meth c Q k n pc al (.int v :: .ref (σ o) :: st) (wo sh σ cA μ) := by
  have he := wo_at (σ := σ) (cA := cA) (μ := μ) hs
  rw [cel_obj hc] at he
  refine b_put X hfl (vp_nar_int v) rfl he (by rw [List.length_mapIdx]; exact (List.getElem?_eq_some_iff.mp hk).1) d ?_ kk
  rw [sfv_set hk, ← cel_obj (σ := σ) (cA := cA) (f := upd (μ o) k0 v) (n := N) hc, wo_set hs, up2_eq]
theorem b_getw {o ci N k0 index r : Nat} {fs : List (Option Nat)} (X : Bx mt cA D A p s m meth c) (hfl : FL mt.1.cls index ci k0) (hs : sh[o]? = some (ci, N, fs)) (hc : ci < 100) (hk : fs[k0]? = some (some r)) (d : decode mt.2.1 pc = .ok (.getfield index, 3)) (kk : BW R mt l D A p e s m args below meth c Q k n (pc + 3) al (.ref (σ r) :: st) (wo sh σ cA μ)) : BW R mt l D A p e s m args below meth c Q k n pc al (.ref (σ o) :: st) (wo sh σ cA μ) := by
  have he := wo_at (σ := σ) (cA := cA) (μ := μ) hs
  rw [cel_obj hc] at he
  refine b_get (own := mt.1.cls) X hfl he ?_ d kk
  rw [List.getElem?_mapIdx, hk]; rfl
theorem b_castw {o N j : Nat} {fs : List (Option Nat)} {x : Int32} (X : Bx mt cA D A p s m meth c) (hs : sh[o]? = some (101, N, fs)) (hj : j < N) (hN : N < 2 ^ 31) (hx : vp_nar .char x = x) (d : decode mt.2.1 pc = .ok (.castore, 1)) (kk : BW R mt l D A p e s m args below meth c Q k n (pc + 1) al st (wo sh σ cA (up2 μ o j x))) : BW R mt l D A p e s m args below meth c Q k n pc al (.int x :: .int (nI j) :: .ref (σ o) :: st) (wo sh σ cA μ) := by
  intro H locs ls P E S V
  have he := wo_at (σ := σ) (cA := cA) (μ := μ) hs
  rw [cel_chr] at he
  refine va_cast X.1.1 X.1.2.1 X.1.2.2.2.2.2.2.1 P E S o 1 he rfl (vp_in_nI hj hN) d (fun H1 locs1 hP1 hD1 hS1 => ?_)
  rw [nI_clamp (Nat.lt_trans hj hN), hx] at hP1 hD1
  have e2 : (wo sh σ cA μ).set o (σ o, .inl (cA 1, N, .inl (upd (μ o) j x))) = wo sh σ cA (up2 μ o j x) := by
    rw [← cel_chr (σ := σ) (cA := cA) (f := upd (μ o) j x) (n := N) (fs := fs), wo_set hs, up2_eq]
  rw [e2] at hP1 hD1
  exact kk H1 locs1 ls hP1 hD1 hS1 V
end WORLDS
