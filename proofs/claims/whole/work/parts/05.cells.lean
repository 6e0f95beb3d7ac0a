/-! fields, arrays, calls -/
def FL (own : String) (idx ci k : Nat) : Prop := ∃ (C : String) (T : u_T) (N : Nat), vwCl[ci]? = some (C, T, N) ∧ k < N ∧ Cond.fieldLink own idx (T k).1 (T k).2.1 (T k).2.2.1 ∈ lw_tbl ∧ (∀ w ∈ u_ws C T N, w ∈ lw_tbl ∧ hs_word w = true)
def FP (own : String) (idx ci k : Nat) (ty : FieldType) : Prop := ∃ (C : String) (T : u_T) (N : Nat) (ty0 : Nat → FieldType), vwCl[ci]? = some (C, T, N) ∧ k < N ∧ Cond.fieldLink own idx (T k).1 (T k).2.1 (T k).2.2.1 ∈ lw_tbl ∧ (∀ w ∈ u_ws C T N, w ∈ lw_tbl ∧ hs_word w = true) ∧
  (∀ k, k < N → parseFieldDescriptor (T k).2.2.1 = some (ty0 k)) ∧ (∀ a, a < N → ∀ b, b < N → a ≠ b → (T a).2.1 ≠ (T b).2.1) ∧ (T k).2.2.2 = false ∧ parseFieldDescriptor (T k).2.2.1 = some ty
section CELLS
variable {sh : Shp} {mt : Mt} {pc : Nat} {al : List (Option Value)} {st : List Value} {μ : Mem} {Q : Int32 → Mem → Prop}
theorem a_geti {o ci n k index : Nat} {fs : List (Option Nat)} (hfl : FL mt.1.cls index ci k) (hs : sh[o]? = some (ci, n, fs)) (hc : ci < 100) (hk : fs[k]? = some none) (d : decode mt.2.1 pc = .ok (.getfield index, 3)) (kk : AW sh mt (pc + 3) al (.int (μ o k) :: st) μ Q) : AW sh mt pc al (.ref o :: st) μ Q := by
  intro l σ cA D A p e s m args below meth c H locs ls X R S V
  obtain ⟨C, T, N, h1, h2, h3, h4⟩ := hfl
  have he := wo_at (σ := σ) (cA := cA) (μ := μ) hs
  rw [cel_obj hc] at he
  refine va_get X.1 X.2.1 (Ts := u_ws C T N) (fun w hw => X.2.2.2.2.2.2.2.use (h4 w hw).1 (h4 w hw).2 args) (fun w hw => hw) X.2.2.2.2.2.1 X.2.2.2.2.2.2.1 R.1 o he h1 k h2 (X.2.2.2.2.2.2.2.use h3 rfl args) (fun _ h => h) (v := .int (μ o k)) ?_ d (kk l σ cA D A p e s m args below meth c H locs ls X R S V)
  rw [List.getElem?_mapIdx, hk]; rfl
theorem a_getr {o ci n k index r : Nat} {fs : List (Option Nat)} (hfl : FL mt.1.cls index ci k) (hs : sh[o]? = some (ci, n, fs)) (hc : ci < 100) (hk : fs[k]? = some (some r)) (d : decode mt.2.1 pc = .ok (.getfield index, 3)) (kk : AW sh mt (pc + 3) al (.ref r :: st) μ Q) : AW sh mt pc al (.ref o :: st) μ Q := by
  intro l σ cA D A p e s m args below meth c H locs ls X R S V
  obtain ⟨C, T, N, h1, h2, h3, h4⟩ := hfl
  have he := wo_at (σ := σ) (cA := cA) (μ := μ) hs
  rw [cel_obj hc] at he
  refine va_get X.1 X.2.1 (Ts := u_ws C T N) (fun w hw => X.2.2.2.2.2.2.2.use (h4 w hw).1 (h4 w hw).2 args) (fun w hw => hw) X.2.2.2.2.2.1 X.2.2.2.2.2.2.1 R.1 o he h1 k h2 (X.2.2.2.2.2.2.2.use h3 rfl args) (fun _ h => h) (v := .ref (σ r)) ?_ d (kk l σ cA D A p e s m args below meth c H locs ls X R S V)
  rw [List.getElem?_mapIdx, hk]; rfl
theorem sfv_set {σ : Nat → Nat} {f : Nat → Int32} {fs : List (Option Nat)} {k : Nat} {v : Int32} (hk : fs[k]? = some none) : (fs.mapIdx (sfv σ f)).set k (.int v) = fs.mapIdx (sfv σ (upd f k v)) := by
  apply List.ext_getElem?
  intro i
  rw [List.getElem?_set, List.length_mapIdx, List.getElem?_mapIdx, List.getElem?_mapIdx]
  by_cases hi : k = i
  · subst hi
    have hl : k < fs.length := (List.getElem?_eq_some_iff.mp hk).1
    rw [if_pos rfl, if_pos hl, hk]
    simp [sfv, upd]
  · rw [if_neg hi]
    have : ¬ i = k := fun e => hi e.symm
    cases fs[i]? with
    | none => rfl
    | some r => cases r with
      | none => simp [sfv, upd, this]
      | some a => rfl
theorem a_putx {o ci n k index : Nat} {fs : List (Option Nat)} {v : Int32} {ty : FieldType} (hfl : FP mt.1.cls index ci k ty) (hn : narrow ty (.int v) = .int v) (hfit : fits ty (.int v) = true) (hs : sh[o]? = some (ci, n, fs)) (hc : ci < 100) (hk : fs[k]? = some none) (d : decode mt.2.1 pc = .ok (.putfield index, 3)) (kk : AW sh mt (pc + 3) al st (up2 μ o k v) Q) : AW sh mt pc al (.int v :: .ref o :: st) μ Q := by
  intro l σ cA D A p e s m args below meth c H locs ls X R S V
  obtain ⟨C, T, N, ty0, h1, h2, h3, h4, h5, h6, h7, h8⟩ := hfl
  have he := wo_at (σ := σ) (cA := cA) (μ := μ) hs
  rw [cel_obj hc] at he
  refine va_put X.1 X.2.1 (Ts := u_ws C T N) (fun w hw => X.2.2.2.2.2.2.2.use (h4 w hw).1 (h4 w hw).2 args) (fun w hw => hw) ty0 h5 h6 X.2.2.2.2.2.1 X.2.2.2.2.2.2.1 R.1 R.2 S o he h1 k h2 (X.2.2.2.2.2.2.2.use h3 rfl args) (fun _ h => h) h7 (v := .int v) h8 hn hfit (by rw [List.length_mapIdx]; exact (List.getElem?_eq_some_iff.mp hk).1) d (fun H1 locs1 hP1 hD1 hS1 => ?_)
  have e2 : (wo sh σ cA μ).set o (σ o, .inr (ci, (fs.mapIdx (sfv σ (μ o))).set k (.int v))) = wo sh σ cA (up2 μ o k v) := by
    rw [sfv_set hk, ← cel_obj (σ := σ) (cA := cA) (f := upd (μ o) k v) (n := n) hc, wo_set hs, up2_eq]
  rw [e2] at hP1 hD1
  exact kk l σ cA D A p e s m args below meth c H1 locs1 ls X ⟨hP1, hD1⟩ hS1 V
theorem a_puti {o ci n k index : Nat} {fs : List (Option Nat)} {v : Int32} (hfl : FP mt.1.cls index ci k .int) (hs : sh[o]? = some (ci, n, fs)) (hc : ci < 100) (hk : fs[k]? = some none) (d : decode mt.2.1 pc = .ok (.putfield index, 3)) (kk : AW sh mt (pc + 3) al st (up2 μ o k v) Q) : AW sh mt pc al (.int v :: .ref o :: st) μ Q := a_putx hfl (vp_nar_int v) rfl hs hc hk d kk
theorem a_iald {o n : Nat} {fs : List (Option Nat)} {i : Int32} {j : Nat} (hs : sh[o]? = some (100, n, fs)) (hi : i = nI j) (hj : j < n) (hn : n < 2 ^ 31) (d : decode mt.2.1 pc = .ok (.iaload, 1)) (kk : AW sh mt (pc + 1) al (.int (μ o j) :: st) μ Q) : AW sh mt pc al (.int i :: .ref o :: st) μ Q := by
  intro l σ cA D A p e s m args below meth c H locs ls X R S V
  have he := wo_at (σ := σ) (cA := cA) (μ := μ) hs
  rw [cel_int] at he
  subst hi
  refine va_iald X.1 X.2.1 X.2.2.2.2.2.2.1 R.1 o 0 he rfl (vp_in_nI hj hn) d ?_
  rw [nI_clamp (Nat.lt_trans hj hn)]
  exact kk l σ cA D A p e s m args below meth c H locs ls X R S V
theorem a_cald {o n : Nat} {fs : List (Option Nat)} {i : Int32} {j : Nat} (hs : sh[o]? = some (101, n, fs)) (hi : i = nI j) (hj : j < n) (hn : n < 2 ^ 31) (d : decode mt.2.1 pc = .ok (.caload, 1)) (kk : AW sh mt (pc + 1) al (.int (μ o j) :: st) μ Q) : AW sh mt pc al (.int i :: .ref o :: st) μ Q := by
  intro l σ cA D A p e s m args below meth c H locs ls X R S V
  have he := wo_at (σ := σ) (cA := cA) (μ := μ) hs
  rw [cel_chr] at he
  subst hi
  refine va_cald X.1 X.2.1 X.2.2.2.2.2.2.1 R.1 o 1 he rfl (vp_in_nI hj hn) d ?_
  rw [nI_clamp (Nat.lt_trans hj hn)]
  exact kk l σ cA D A p e s m args below meth c H locs ls X R S V
theorem a_iast {o n : Nat} {fs : List (Option Nat)} {i x : Int32} {j : Nat} (hs : sh[o]? = some (100, n, fs)) (hi : i = nI j) (hj : j < n) (hn : n < 2 ^ 31) (d : decode mt.2.1 pc = .ok (.iastore, 1)) (kk : AW sh mt (pc + 1) al st (up2 μ o j x) Q) : AW sh mt pc al (.int x :: .int i :: .ref o :: st) μ Q := by
  intro l σ cA D A p e s m args below meth c H locs ls X R S V
  have he := wo_at (σ := σ) (cA := cA) (μ := μ) hs
  rw [cel_int] at he
  subst hi
  refine va_iast X.1 X.2.1 X.2.2.2.2.2.2.1 R.1 R.2 S o 0 he rfl (vp_in_nI hj hn) d (fun H1 locs1 hP1 hD1 hS1 => ?_)
  rw [nI_clamp (Nat.lt_trans hj hn)] at hP1 hD1
  have e2 : (wo sh σ cA μ).set o (σ o, .inl (cA 0, n, .inl (upd (μ o) j x))) = wo sh σ cA (up2 μ o j x) := by
    rw [← cel_int (σ := σ) (cA := cA) (f := upd (μ o) j x) (n := n) (fs := fs), wo_set hs, up2_eq]
  rw [e2] at hP1 hD1
  exact kk l σ cA D A p e s m args below meth c H1 locs1 ls X ⟨hP1, hD1⟩ hS1 V
theorem a_cast {o n : Nat} {fs : List (Option Nat)} {i x : Int32} {j : Nat} (hs : sh[o]? = some (101, n, fs)) (hi : i = nI j) (hj : j < n) (hn : n < 2 ^ 31) (hx : vp_nar .char x = x) (d : decode mt.2.1 pc = .ok (.castore, 1)) (kk : AW sh mt (pc + 1) al st (up2 μ o j x) Q) : AW sh mt pc al (.int x :: .int i :: .ref o :: st) μ Q := by
  intro l σ cA D A p e s m args below meth c H locs ls X R S V
  have he := wo_at (σ := σ) (cA := cA) (μ := μ) hs
  rw [cel_chr] at he
  subst hi
  refine va_cast X.1 X.2.1 X.2.2.2.2.2.2.1 R.1 R.2 S o 1 he rfl (vp_in_nI hj hn) d (fun H1 locs1 hP1 hD1 hS1 => ?_)
  rw [nI_clamp (Nat.lt_trans hj hn), hx] at hP1 hD1
  have e2 : (wo sh σ cA μ).set o (σ o, .inl (cA 1, n, .inl (upd (μ o) j x))) = wo sh σ cA (up2 μ o j x) := by
    rw [← cel_chr (σ := σ) (cA := cA) (f := upd (μ o) j x) (n := n) (fs := fs), wo_set hs, up2_eq]
  rw [e2] at hP1 hD1
  exact kk l σ cA D A p e s m args below meth c H1 locs1 ls X ⟨hP1, hD1⟩ hS1 V
theorem a_aald2 {o n r : Nat} {fs : List (Option Nat)} {i : Int32} {j : Nat} (hs : sh[o]? = some (102, n, fs)) (hi : i = nI j) (hj : j < n) (hn : n < 2 ^ 31) (hr : fs[j]? = some (some r)) (d : decode mt.2.1 pc = .ok (.aaload, 1)) (kk : AW sh mt (pc + 1) al (.ref r :: st) μ Q) : AW sh mt pc al (.int i :: .ref o :: st) μ Q := by
  intro l σ cA D A p e s m args below meth c H locs ls X R S V
  have he := wo_at (σ := σ) (cA := cA) (μ := μ) hs
  rw [cel_ref (by decide)] at he
  subst hi
  refine va_aldq X.1 X.2.1 X.2.2.2.2.2.2.1 R.1 o 2 he rfl (vp_in_nI hj hn) d ?_
  rw [nI_clamp (Nat.lt_trans hj hn)]
  have e3 : (fs.getD j none).map σ = some (σ r) := by rw [List.getD_eq_getElem?_getD, hr]; rfl
  rw [e3]
  exact kk l σ cA D A p e s m args below meth c H locs ls X R S V
theorem a_aald3 {o n r : Nat} {fs : List (Option Nat)} {i : Int32} {j : Nat} (hs : sh[o]? = some (103, n, fs)) (hi : i = nI j) (hj : j < n) (hn : n < 2 ^ 31) (hr : fs[j]? = some (some r)) (d : decode mt.2.1 pc = .ok (.aaload, 1)) (kk : AW sh mt (pc + 1) al (.ref r :: st) μ Q) : AW sh mt pc al (.int i :: .ref o :: st) μ Q := by
  intro l σ cA D A p e s m args below meth c H locs ls X R S V
  have he := wo_at (σ := σ) (cA := cA) (μ := μ) hs
  rw [cel_ref (by decide)] at he
  subst hi
  refine va_aldq X.1 X.2.1 X.2.2.2.2.2.2.1 R.1 o 3 he rfl (vp_in_nI hj hn) d ?_
  rw [nI_clamp (Nat.lt_trans hj hn)]
  have e3 : (fs.getD j none).map σ = some (σ r) := by rw [List.getD_eq_getElem?_getD, hr]; rfl
  rw [e3]
  exact kk l σ cA D A p e s m args below meth c H locs ls X R S V
/-- System.arraycopy of int arrays -/
theorem a_copy {o1 o2 n1 n2 idx : Nat} {f1 f2 : List (Option Nat)} {sp dp n : Int32} {js jd jn : Nat} (hs1 : sh[o1]? = some (100, n1, f1)) (hs2 : sh[o2]? = some (100, n2, f2)) (e1 : sp = nI js) (e2 : dp = nI jd) (e3 : n = nI jn) (hb1 : js + jn ≤ n1) (hb2 : jd + jn ≤ n2) (hn1 : n1 < 2 ^ 31) (hn2 : n2 < 2 ^ 31)
    (hw : Cond.methodLink mt.1.cls idx arraycopyName ∈ lw_tbl) (hw2 : Cond.native arraycopyName ∈ lw_tbl) (hw3 : Cond.static arraycopyName ∈ lw_tbl) (hw4 : Cond.initialized "java/lang/System" ∈ lw_tbl) (hr : 1 ≤ mt.2.2.2.2.1) (hlo : (st.map Value.category).sum + (nativeFrameWords "java/lang/System" "arraycopy" 5 + 11) ≤ mt.2.2.2.2.2)
    (d : decode mt.2.1 pc = .ok (.invokestatic idx, 3)) (kk : AW sh mt (pc + 3) al st (upA μ o2 (va_cpy (μ o1) (μ o2) js jd jn)) Q) : AW sh mt pc al (.int n :: .int dp :: .ref o2 :: .int sp :: .ref o1 :: st) μ Q := by
  intro l σ cA D A p e s m args below meth c H locs ls X R S V
  have he1 := wo_at (σ := σ) (cA := cA) (μ := μ) hs1
  rw [cel_int] at he1
  have he2 := wo_at (σ := σ) (cA := cA) (μ := μ) hs2
  rw [cel_int] at he2
  have b1 : js < 2 ^ 31 := by omega
  have b2 : jd < 2 ^ 31 := by omega
  have b3 : jn < 2 ^ 31 := by omega
  subst e1; subst e2; subst e3
  refine va_copyi X.1 X.2.1 (X.2.2.1.trans V.1.symm) X.2.2.2.2.2.1 (X.2.2.2.2.2.2.2.use hw rfl args) (X.2.2.2.2.2.2.2.use hw2 rfl args) (X.2.2.2.2.2.2.2.use hw3 rfl args) (X.2.2.2.2.2.2.2.use hw4 rfl args) X.2.2.2.2.2.2.1 R.1 R.2 S o1 o2 0 0 he1 he2 rfl rfl rfl (nI_pos b1) (nI_pos b2) (nI_pos b3) (by rw [nI_clamp b1, nI_clamp b3]; exact hb1) (by rw [nI_clamp b2, nI_clamp b3]; exact hb2) (fun _ _ => rfl) hr ?_ d (fun H1 locs1 hP1 hD1 hS1 => ?_)
  · have e5 : ((st.map (cvl σ)).map fun v => v.category).sum = (st.map Value.category).sum := by
      rw [List.map_map]; congr 1; apply List.map_congr_left; intro v _; exact cvl_cat σ v
    rw [e5]; exact hlo
  · rw [nI_clamp b1, nI_clamp b2, nI_clamp b3] at hP1 hD1
    have e6 : (wo sh σ cA μ).set o2 (σ o2, .inl (cA 0, n2, .inl (va_cpy (μ o1) (μ o2) js jd jn))) = wo sh σ cA (upA μ o2 (va_cpy (μ o1) (μ o2) js jd jn)) := by
      rw [← cel_int (σ := σ) (cA := cA) (f := va_cpy (μ o1) (μ o2) js jd jn) (n := n2) (fs := f2), wo_set hs2]
    rw [e6] at hP1 hD1
    exact kk l σ cA D A p e s m args below meth c H1 locs1 ls X ⟨hP1, hD1⟩ hS1 V
theorem map_cat (σ : Nat → Nat) (st : List Value) : ((st.map (cvl σ)).map fun v => v.category).sum = (st.map Value.category).sum := by
  rw [List.map_map]; congr 1; apply List.map_congr_left; intro v _; exact cvl_cat σ v
theorem a_mmax {idx : Nat} {x y : Int32} (hw : Cond.methodLink mt.1.cls idx Lib.Math.max.name ∈ lw_tbl) (hw2 : Cond.static Lib.Math.max.name ∈ lw_tbl) (hw3 : Cond.initialized "java/lang/Math" ∈ lw_tbl) (hw4 : Cond.code Lib.Math.max.name Lib.Math.max.code 2 (some .int) ∈ lw_tbl) (hr : 1 ≤ mt.2.2.2.2.1) (hlo : (st.map Value.category).sum + 13 ≤ mt.2.2.2.2.2) (d : decode mt.2.1 pc = .ok (.invokestatic idx, 3)) (kk : AW sh mt (pc + 3) al (.int (if x < y then y else x) :: st) μ Q) : AW sh mt pc al (.int y :: .int x :: st) μ Q := by
  intro l σ cA D A p e s m args below meth c H locs ls X R S V
  exact va_mmax X.1 X.2.1 (X.2.2.1.trans V.1.symm) X.2.2.2.2.2.1 (X.2.2.2.2.2.2.2.use hw rfl args) (X.2.2.2.2.2.2.2.use hw2 rfl args) (X.2.2.2.2.2.2.2.use hw3 rfl args) (X.2.2.2.2.2.2.2.use hw4 rfl args) hr (by rw [map_cat]; exact hlo) (Nat.le_refl _) (Nat.le_refl _) d (kk l σ cA D A p e s m args below meth c H locs ls X R S V)
theorem a_mmin {idx : Nat} {x y : Int32} (hw : Cond.methodLink mt.1.cls idx Lib.Math.min.name ∈ lw_tbl) (hw2 : Cond.static Lib.Math.min.name ∈ lw_tbl) (hw3 : Cond.initialized "java/lang/Math" ∈ lw_tbl) (hw4 : Cond.code Lib.Math.min.name Lib.Math.min.code 2 (some .int) ∈ lw_tbl) (hr : 1 ≤ mt.2.2.2.2.1) (hlo : (st.map Value.category).sum + 13 ≤ mt.2.2.2.2.2) (d : decode mt.2.1 pc = .ok (.invokestatic idx, 3)) (kk : AW sh mt (pc + 3) al (.int (if y < x then y else x) :: st) μ Q) : AW sh mt pc al (.int y :: .int x :: st) μ Q := by
  intro l σ cA D A p e s m args below meth c H locs ls X R S V
  exact va_mmin X.1 X.2.1 (X.2.2.1.trans V.1.symm) X.2.2.2.2.2.1 (X.2.2.2.2.2.2.2.use hw rfl args) (X.2.2.2.2.2.2.2.use hw2 rfl args) (X.2.2.2.2.2.2.2.use hw3 rfl args) (X.2.2.2.2.2.2.2.use hw4 rfl args) hr (by rw [map_cat]; exact hlo) (Nat.le_refl _) (Nat.le_refl _) d (kk l σ cA D A p e s m args below meth c H locs ls X R S V)
end CELLS
