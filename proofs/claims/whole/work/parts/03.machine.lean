/-! THE MACHINE AS SEEN FROM HERE: objects have numbers (0, 1, ..), their shapes never change, their ints are a function; AW: from this place of a method on, with these locals, this stack and these ints, the method comes to its end, with Q of its answer (0 where it is void) and the ints then. -/
abbrev Mem : Type := Nat → Nat → Int32
abbrev Shp : Type := List (Nat × Nat × List (Option Nat))
abbrev Mt : Type := MethodName × ByteArray × Nat × Option FieldType × Nat × Nat
def up2 (μ : Mem) (o k : Nat) (v : Int32) : Mem := fun o' => if o' = o then upd (μ o') k v else μ o'
def upA (μ : Mem) (o : Nat) (f : Nat → Int32) : Mem := fun o' => if o' = o then f else μ o'
theorem up2_eq (μ : Mem) (o k : Nat) (v : Int32) : up2 μ o k v = upA μ o (upd (μ o) k v) := by
  funext o'; unfold up2 upA; by_cases h : o' = o
  · rw [if_pos h, if_pos h, h]
  · rw [if_neg h, if_neg h]
def hs_word (w : Cond) : Bool := w.onTables && w.keeps
def Fx (U : State) : Prop := (∀ w ∈ lw_tbl, hs_word w = true → w.before #[] U = true) ∧ va_Nw (.methodLinkNest RX2 96 yX6_drawnNumber "HeardSlots") U
theorem Fx.use {U : State} (h : Fx U) {w : Cond} (hw : w ∈ lw_tbl) (hg : hs_word w = true) (A : Array Value) : w.before A U = true :=
  va_tabs (by have h2 := hg; unfold hs_word at h2; rw [Bool.and_eq_true] at h2; exact h2.1) rfl (h.1 w hw hg)
theorem Fx.warm {s U : State} (h : Fx s) (hW : s.WarmedH U.vm) : Fx U :=
  ⟨fun w hw hg => word_at hW (Or.inl hg) (h.use hw hg #[]), va_Nw.warmM hW h.2⟩
theorem Fx.same {u U : State} (h : Fx u) (e : u.vm = U.vm) : Fx U :=
  ⟨fun w hw hg => va_tabs (by have h2 := hg; unfold hs_word at h2; rw [Bool.and_eq_true] at h2; exact h2.1) e (h.1 w hw hg), va_Nw.same rfl e h.2⟩
def cvl (σ : Nat → Nat) : Value → Value
  | .ref a => .ref (σ a)
  | v => v
theorem cvl_cat (σ : Nat → Nat) (v : Value) : (cvl σ v).category = v.category := by cases v <;> rfl
def sfv (σ : Nat → Nat) (f : Nat → Int32) (j : Nat) (r : Option Nat) : Value := match r with
  | none => .int (f j)
  | some a => .ref (σ a)
def cel (σ : Nat → Nat) (cA : Nat → ClassId) (f : Nat → Int32) (x : Nat × Nat × List (Option Nat)) : va_E :=
  if x.1 < 100 then .inr (x.1, x.2.2.mapIdx (sfv σ f)) else if x.1 < 102 then .inl (cA (x.1 - 100), x.2.1, .inl f) else .inl (cA (x.1 - 100), x.2.1, .inr (.inr (.inr (.inr (fun j => (x.2.2.getD j none).map σ)))))
def wo (sh : Shp) (σ : Nat → Nat) (cA : Nat → ClassId) (μ : Mem) : va_W := sh.mapIdx (fun o x => (σ o, cel σ cA (μ o) x))
def tysA (cA : Nat → ClassId) : List (ClassId × FieldType) := [(cA 0, .int), (cA 1, .char), (cA 2, .object "HeardSlots$Station"), (cA 3, .object "HeardSlots$Net")]
def Rp (sh : Shp) (σ : Nat → Nat) (cA : Nat → ClassId) (D : va_G) (A : Nat → Prop) (μ : Mem) (H : Heap) : Prop := va_P D vwCl (wo sh σ cA μ) H ∧ va_D A (wo sh σ cA μ)
theorem wo_at {sh : Shp} {σ : Nat → Nat} {cA : Nat → ClassId} {μ : Mem} {o : Nat} {x : Nat × Nat × List (Option Nat)} (h : sh[o]? = some x) : (wo sh σ cA μ)[o]? = some (σ o, cel σ cA (μ o) x) := by
  unfold wo; rw [List.getElem?_mapIdx, h]; rfl
theorem wo_set {sh : Shp} {σ : Nat → Nat} {cA : Nat → ClassId} {μ : Mem} {o : Nat} {x : Nat × Nat × List (Option Nat)} {f : Nat → Int32} (h : sh[o]? = some x) : (wo sh σ cA μ).set o (σ o, cel σ cA f x) = wo sh σ cA (upA μ o f) := by
  apply List.ext_getElem?
  intro i
  rw [List.getElem?_set]
  unfold wo
  rw [List.length_mapIdx, List.getElem?_mapIdx, List.getElem?_mapIdx]
  by_cases hi : o = i
  · subst hi
    have hl : o < sh.length := (List.getElem?_eq_some_iff.mp h).1
    rw [if_pos rfl, if_pos hl, h]
    simp [upA]
  · rw [if_neg hi]
    have : ¬ i = o := fun e => hi e.symm
    simp [upA, this]
theorem cel_obj {σ : Nat → Nat} {cA : Nat → ClassId} {f : Nat → Int32} {ci n : Nat} {fs : List (Option Nat)} (h : ci < 100) : cel σ cA f (ci, n, fs) = .inr (ci, fs.mapIdx (sfv σ f)) := by
  unfold cel; rw [if_pos h]
theorem cel_int {σ : Nat → Nat} {cA : Nat → ClassId} {f : Nat → Int32} {n : Nat} {fs : List (Option Nat)} : cel σ cA f (100, n, fs) = .inl (cA 0, n, .inl f) := rfl
theorem cel_chr {σ : Nat → Nat} {cA : Nat → ClassId} {f : Nat → Int32} {n : Nat} {fs : List (Option Nat)} : cel σ cA f (101, n, fs) = .inl (cA 1, n, .inl f) := rfl
theorem cel_ref {σ : Nat → Nat} {cA : Nat → ClassId} {f : Nat → Int32} {t n : Nat} {fs : List (Option Nat)} (h : 102 ≤ t) : cel σ cA f (t, n, fs) = .inl (cA (t - 100), n, .inr (.inr (.inr (.inr (fun j => (fs.getD j none).map σ))))) := by
  unfold cel; rw [if_neg (by show ¬ t < 100; omega), if_neg (by show ¬ t < 102; omega)]
def toL (σ : Nat → Nat) (al : List (Option Value)) : List (Nat × Value) := al.zipIdx.filterMap (fun q => q.1.map (fun v => (q.2, cvl σ v)))
theorem mem_toL {σ : Nat → Nat} {al : List (Option Value)} {q : Nat × Value} : q ∈ toL σ al ↔ ∃ v, al[q.1]? = some (some v) ∧ q.2 = cvl σ v := by
  unfold toL
  rw [List.mem_filterMap]
  constructor
  · rintro ⟨⟨o, i⟩, h1, h2⟩
    cases o with
    | none => cases h2
    | some v =>
      cases h2
      exact ⟨v, by simpa [List.mem_zipIdx_iff_getElem?] using h1, rfl⟩
  · rintro ⟨v, h1, h2⟩
    refine ⟨(some v, q.1), by simpa [List.mem_zipIdx_iff_getElem?] using h1, ?_⟩
    obtain ⟨a, b⟩ := q
    cases h2
    rfl
def LV (σ : Nat → Nat) (ls : Array Slot) (nL : Nat) (al : List (Option Value)) : Prop := lv_has ls nL (toL σ al)
theorem LV.get {σ : Nat → Nat} {ls : Array Slot} {nL : Nat} {al : List (Option Value)} (h : LV σ ls nL al) {i : Nat} {v : Value} (hi : al[i]? = some (some v)) : ls[i]? = some (.val (cvl σ v)) := h.2.2 (i, cvl σ v) (mem_toL.mpr ⟨v, hi, rfl⟩)
def nolong (al : List (Option Value)) (i : Nat) : Bool := match i with
  | 0 => true
  | j + 1 => match al[j]? with
    | some (some v) => v.category == 1
    | _ => true
theorem nolong_spec {al : List (Option Value)} {i j : Nat} {v : Value} (h : nolong al i = true) (hj : j + 1 = i) (hv : al[j]? = some (some v)) : v.category = 1 := by
  subst hj
  unfold nolong at h
  simp only [hv] at h
  simpa using h
theorem LV.set1 {σ : Nat → Nat} {ls : Array Slot} {nL : Nat} {al : List (Option Value)} {i : Nat} {v : Value} (hn : nolong al i = true) (h : lv_has ls nL ((i, cvl σ v) :: (toL σ al).filter (fun q => !(q.1 == i) && !(q.1 + 1 == i && q.2.category == 2)))) : LV σ ls nL (al.set i (some v)) := by
  refine ⟨h.1, h.2.1, fun q hq => ?_⟩
  obtain ⟨w, h1, h2⟩ := mem_toL.mp hq
  by_cases hi : q.1 = i
  · apply h.2.2 q
    rw [hi, List.getElem?_set] at h1
    rw [if_pos rfl] at h1
    split at h1
    · cases h1
      rw [List.mem_cons]; left; rw [← hi, ← h2]
    · cases h1
  · apply h.2.2 q
    rw [List.getElem?_set_ne (fun e => hi e.symm)] at h1
    refine List.mem_cons_of_mem _ (List.mem_filter.mpr ⟨mem_toL.mpr ⟨w, h1, h2⟩, ?_⟩)
    by_cases hj : q.1 + 1 = i
    · have h3 : q.2.category = 1 := by rw [h2, cvl_cat]; exact nolong_spec hn hj h1
      simp [hi, h3]
    · simp [hi, hj]
theorem LV.set2 {σ : Nat → Nat} {ls : Array Slot} {nL : Nat} {al : List (Option Value)} {i : Nat} {v : Value} (hn : nolong al i = true) (h : lv_has ls nL ((i, cvl σ v) :: (toL σ al).filter (fun q => !(q.1 == i) && (!(q.1 == i + 1) && !(q.1 + 1 == i && q.2.category == 2))))) : LV σ ls nL ((al.set i (some v)).set (i + 1) none) := by
  refine ⟨h.1, h.2.1, fun q hq => ?_⟩
  obtain ⟨w, h1, h2⟩ := mem_toL.mp hq
  by_cases hi2 : q.1 = i + 1
  · rw [hi2, List.getElem?_set] at h1
    rw [if_pos rfl] at h1
    split at h1 <;> cases h1
  · rw [List.getElem?_set_ne (fun e => hi2 e.symm)] at h1
    by_cases hi : q.1 = i
    · apply h.2.2 q
      rw [hi, List.getElem?_set] at h1
      rw [if_pos rfl] at h1
      split at h1
      · cases h1
        rw [List.mem_cons]; left; rw [← hi, ← h2]
      · cases h1
    · apply h.2.2 q
      rw [List.getElem?_set_ne (fun e => hi e.symm)] at h1
      refine List.mem_cons_of_mem _ (List.mem_filter.mpr ⟨mem_toL.mpr ⟨w, h1, h2⟩, ?_⟩)
      by_cases hj : q.1 + 1 = i
      · have h3 : q.2.category = 1 := by rw [h2, cvl_cat]; exact nolong_spec hn hj h1
        simp [hi, hi2, h3]
      · simp [hi, hi2, hj]
abbrev rmOf (mt : Mt) : Room := { frames := mt.2.2.2.2.1, cells := 0, slots := 0, locals := mt.2.2.2.2.2 }
def Ax (mt : Mt) (cA : Nat → ClassId) (D : va_G) (p : Program) (s : State) (m : MethodId) (meth : Method) (c : Code) : Prop :=
  p.tables.exec = Jvm.exec ∧ c.code = mt.2.1 ∧ c.maxLocals = mt.2.2.1 ∧ meth.sig.returnType = mt.2.2.2.1 ∧ meth.locks = false ∧ s.vm.findClass mt.1.cls = some m.cls ∧ va_K D vwCl (tysA cA) s ∧ Fx s
def Qc (sh : Shp) (ret : Option FieldType) (σ : Nat → Nat) (cA : Nat → ClassId) (D : va_G) (A : Nat → Prop) (Q : Int32 → Mem → Prop) : Array Value → State → Outcome → State → Prop := match ret with
  | none => va_Qv (fun u : Mem => Q 0 u) (fun u t => Rp sh σ cA D A u t.heap) A
  | some _ => va_Qi (fun (r : Int32) (u : Mem) => Q r u) (fun u t => Rp sh σ cA D A u t.heap) A
def AW (sh : Shp) (mt : Mt) (pc : Nat) (al : List (Option Value)) (st : List Value) (μ : Mem) (Q : Int32 → Mem → Prop) : Prop :=
  ∀ (l : Launch) (σ : Nat → Nat) (cA : Nat → ClassId) (D : va_G) (A : Nat → Prop) (p : Program) (e : Env) (s : State) (m : MethodId) (args : Array Value) (below : List Frame) (meth : Method) (c : Code) (H : Heap) (locs : List Loc) (ls : Array Slot),
    Ax mt cA D p s m meth c → Rp sh σ cA D A μ H → va_S A s.heap H locs → LV σ ls mt.2.2.1 al →
    W p l e (rmOf mt) s m args below meth c H locs 0 0 (MQ below (Qc sh mt.2.2.2.1 σ cA D A Q) args s 0 0 A) (F0 m pc ls (st.map (cvl σ)))
def Con (sh : Shp) (mt : Mt) (vs : List Value) (μ : Mem) (Q : Int32 → Mem → Prop) : Prop :=
  ∀ (l : Launch) (σ : Nat → Nat) (cA : Nat → ClassId) (D : va_G) (A : Nat → Prop), Met l mt.1 [.code mt.1 mt.2.1 mt.2.2.1 mt.2.2.2.1] (rmOf mt)
    (fun a U => a = (vs.map (cvl σ)).toArray ∧ va_K D vwCl (tysA cA) U ∧ Fx U ∧ Rp sh σ cA D A μ U.heap) (Qc sh mt.2.2.2.1 σ cA D A Q) 0 0 A
