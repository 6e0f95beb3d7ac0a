/-! the class's objects: 0 the HeardSlots, 1 its text, 2 the net, 53 the trial, 104 the reader, 105 its numbers, 106 the past, 107 158 209 260 its nets. A net n: n+1 sentBy, n+2 all, its station i at n+3+8i; a station o: o+1 row (o+2 to, o+3 length), o+4 memory (o+5 facts), o+6 owed, o+7 out. -/
def stS (o : Nat) : Shp := [(5, 19, [none, none, none, none, none, none, none, none, none, none, none, none, none, none, none, some (o + 1), some (o + 4), some (o + 6), some (o + 7)]), (0, 3, [none, some (o + 2), some (o + 3)]), (100, 6, []), (100, 6, []), (1, 2, [none, some (o + 5)]), (100, 24, []), (4, 4, [none, none, none, none]), (4, 4, [none, none, none, none])]
def netS (n : Nat) : Shp := [(2, 10, [none, none, none, none, none, none, none, none, some (n + 1), some (n + 2)]), (100, 10, []), (102, 6, [some (n + 3), some (n + 11), some (n + 19), some (n + 27), some (n + 35), some (n + 43)])] ++ (stS (n + 3) ++ (stS (n + 11) ++ (stS (n + 19) ++ (stS (n + 27) ++ (stS (n + 35) ++ stS (n + 43))))))
def shC : Shp := [(6, 8, [some 1, none, some 2, some 53, some 104, some 106, none, none]), (101, 200, [])] ++ (netS 2 ++ (netS 53 ++ ([(3, 5, [some 1, some 53, some 105, none, none]), (100, 3, []), (103, 4, [some 107, some 158, some 209, some 260])] ++ (netS 107 ++ (netS 158 ++ (netS 209 ++ netS 260))))))
def isSig (o : Nat) : Prop := shC[o]? = some (4, 4, [none, none, none, none])
def isRow (o : Nat) : Prop := shC[o]? = some (0, 3, [none, some (o + 1), some (o + 2)]) ∧ shC[o + 1]? = some (100, 6, []) ∧ shC[o + 2]? = some (100, 6, [])
def isMem (o : Nat) : Prop := shC[o]? = some (1, 2, [none, some (o + 1)]) ∧ shC[o + 1]? = some (100, 24, [])
def isSt (o : Nat) : Prop := shC[o]? = some (5, 19, [none, none, none, none, none, none, none, none, none, none, none, none, none, none, none, some (o + 1), some (o + 4), some (o + 6), some (o + 7)]) ∧ isRow (o + 1) ∧ isMem (o + 4) ∧ isSig (o + 6) ∧ isSig (o + 7)
def stA (n i : Nat) : Nat := n + 3 + 8 * i
def allF (n : Nat) : List (Option Nat) := [some (n + 3), some (n + 11), some (n + 19), some (n + 27), some (n + 35), some (n + 43)]
def isNet (n : Nat) : Prop := shC[n]? = some (2, 10, [none, none, none, none, none, none, none, none, some (n + 1), some (n + 2)]) ∧ shC[n + 1]? = some (100, 10, []) ∧ shC[n + 2]? = some (102, 6, allF n) ∧ ∀ i, i < 6 → isSt (stA n i)
theorem all_at {n i : Nat} (h : i < 6) : (allF n)[i]? = some (some (stA n i)) := by
  match i, h with
  | 0, _ => rfl
  | 1, _ => rfl
  | 2, _ => rfl
  | 3, _ => rfl
  | 4, _ => rfl
  | 5, _ => rfl
  | i + 6, h => omega
theorem isNet_of {n : Nat} (h : (List.range 51).all (fun k => decide (shC[n + k]? = (netS n)[k]?)) = true) : isNet n := by
  have h1 : ∀ k, k < 51 → shC[n + k]? = (netS n)[k]? := fun k hk => by simpa using List.all_eq_true.mp h k (List.mem_range.mpr hk)
  refine ⟨h1 0 (by decide), h1 1 (by decide), h1 2 (by decide), fun i hi => ?_⟩
  match i, hi with
  | 0, _ => exact ⟨h1 3 (by decide), ⟨h1 4 (by decide), h1 5 (by decide), h1 6 (by decide)⟩, ⟨h1 7 (by decide), h1 8 (by decide)⟩, h1 9 (by decide), h1 10 (by decide)⟩
  | 1, _ => exact ⟨h1 11 (by decide), ⟨h1 12 (by decide), h1 13 (by decide), h1 14 (by decide)⟩, ⟨h1 15 (by decide), h1 16 (by decide)⟩, h1 17 (by decide), h1 18 (by decide)⟩
  | 2, _ => exact ⟨h1 19 (by decide), ⟨h1 20 (by decide), h1 21 (by decide), h1 22 (by decide)⟩, ⟨h1 23 (by decide), h1 24 (by decide)⟩, h1 25 (by decide), h1 26 (by decide)⟩
  | 3, _ => exact ⟨h1 27 (by decide), ⟨h1 28 (by decide), h1 29 (by decide), h1 30 (by decide)⟩, ⟨h1 31 (by decide), h1 32 (by decide)⟩, h1 33 (by decide), h1 34 (by decide)⟩
  | 4, _ => exact ⟨h1 35 (by decide), ⟨h1 36 (by decide), h1 37 (by decide), h1 38 (by decide)⟩, ⟨h1 39 (by decide), h1 40 (by decide)⟩, h1 41 (by decide), h1 42 (by decide)⟩
  | 5, _ => exact ⟨h1 43 (by decide), ⟨h1 44 (by decide), h1 45 (by decide), h1 46 (by decide)⟩, ⟨h1 47 (by decide), h1 48 (by decide)⟩, h1 49 (by decide), h1 50 (by decide)⟩
  | i + 6, hi => omega
theorem net_2 : isNet 2 := isNet_of (by decide +kernel)
theorem net_53 : isNet 53 := isNet_of (by decide +kernel)
theorem net_107 : isNet 107 := isNet_of (by decide +kernel)
theorem net_158 : isNet 158 := isNet_of (by decide +kernel)
theorem net_209 : isNet 209 := isNet_of (by decide +kernel)
theorem net_260 : isNet 260 := isNet_of (by decide +kernel)
theorem a_top {sh : Shp} {mt : Mt} {pc : Nat} {al : List (Option Value)} {st : List Value} {μ : Mem} {Q : Int32 → Mem → Prop} {x y : Int32} (h : x = y) (k : AW sh mt pc al (.int y :: st) μ Q) : AW sh mt pc al (.int x :: st) μ Q := h ▸ k
theorem up2_ne {μ : Mem} {o k o' : Nat} {v : Int32} (h : o' ≠ o) : up2 μ o k v o' = μ o' := if_neg h
theorem up2_at {μ : Mem} {o k : Nat} {v : Int32} : up2 μ o k v o k = v := by simp [up2, upd]
theorem up2_k {μ : Mem} {o k k' : Nat} {v : Int32} (h : k' ≠ k) : up2 μ o k v o k' = μ o k' := by simp [up2, upd, h]
theorem upA_ne {μ : Mem} {o o' : Nat} {f : Nat → Int32} (h : o' ≠ o) : upA μ o f o' = μ o' := if_neg h
theorem upA_at {μ : Mem} {o : Nat} {f : Nat → Int32} : upA μ o f o = f := if_pos rfl
theorem up2_upA {μ : Mem} {o k : Nat} {f : Nat → Int32} {v : Int32} : up2 (upA μ o f) o k v = upA μ o (upd f k v) := by
  funext o'; unfold up2 upA; by_cases h : o' = o <;> simp [h]
theorem upA_upA {μ : Mem} {o : Nat} {f g : Nat → Int32} : upA (upA μ o f) o g = upA μ o g := by
  funext o'; unfold upA; by_cases h : o' = o <;> simp [h]
theorem upd_at {f : Nat → Int32} {k : Nat} {v : Int32} : upd f k v k = v := by simp [upd]
theorem upd_ne {f : Nat → Int32} {k j : Nat} {v : Int32} (h : j ≠ k) : upd f k v j = f j := by simp [upd, h]
theorem nI_ne {a b : Nat} (ha : a < 2 ^ 31) (hb : b < 2 ^ 31) (h : a ≠ b) : ¬ nI a = nI b := fun e => h ((nI_eq ha hb).mp e)
