/-! hear agrees -/
theorem RA.hear {μ : Mem} {o : Nat} {f : Nat → Int32} {c t D : Nat} {a : Int32} (h : RA μ o f c t D) : RA (up2 μ o 0 a) o f c t D := by
  simp [RA, SR, AWr, OWr, PAr, up2_ap] at h ⊢
  exact h
theorem bit_x : ∀ a, a < 64 → ∀ j, j < 6 → nI a ^^^ (1 <<< (nI j &&& 31)) = nI (a ^^^ 2 ^ j) ∧ (a.testBit j = false → nI a ||| (1 <<< (nI j &&& 31)) = nI (a ^^^ 2 ^ j)) ∧ (a.testBit j = true → nI a &&& ((1 <<< (nI j &&& 31)) ^^^ (-1)) = nI (a ^^^ 2 ^ j)) ∧ a ^^^ 2 ^ j < 64 := by decide +kernel
theorem bit_y : ∀ a, a < 64 → ∀ j, j < 6 → ∀ x, x < 6 → (a ^^^ 2 ^ j).testBit x = (if x = j then !a.testBit j else a.testBit x) := by decide +kernel
theorem hear_rel {μ ν : Mem} {N t D i j : Nat} {hm : Nat → Nat} (h : NR μ 2 ν 0 N t D) (hH : ∀ i, i < N → hm i < 64 ∧ μ (stA 2 i) 0 = nI (hm i) ∧ ν 2 (420 + i) = nI (hm i)) (hsym : ∀ i j, i < N → j < N → (hm i).testBit j = (hm j).testBit i) (hi : i < N) (hj : j < N) (hij : i ≠ j) (hN : N ≤ 6) :
    NR (up2 (up2 μ (stA 2 i) 0 (nI (hm i ^^^ 2 ^ j))) (stA 2 j) 0 (nI (hm j ^^^ 2 ^ i))) 2 (up2 (up2 ν 2 (420 + i) (nI (hm i ^^^ 2 ^ j))) 2 (420 + j) (nI (hm j ^^^ 2 ^ i))) 0 N t D := by
  obtain ⟨hcf, ⟨z, z1, z2, z3⟩, h6, h6', h7, hT, -, hR⟩ := h
  simp only [Nat.zero_add] at z2 h6' h7 hR
  have eu : ∀ x, x ≠ stA 2 i → x ≠ stA 2 j → up2 (up2 μ (stA 2 i) 0 (nI (hm i ^^^ 2 ^ j))) (stA 2 j) 0 (nI (hm j ^^^ 2 ^ i)) x = μ x := fun x h1 h2 => by rw [up2_ne h2, up2_ne h1]
  have hne : stA 2 i ≠ stA 2 j := by unfold stA; omega
  have eui : up2 (up2 μ (stA 2 i) 0 (nI (hm i ^^^ 2 ^ j))) (stA 2 j) 0 (nI (hm j ^^^ 2 ^ i)) (stA 2 i) 0 = nI (hm i ^^^ 2 ^ j) := by rw [up2_ne hne, up2_at]
  have euj : up2 (up2 μ (stA 2 i) 0 (nI (hm i ^^^ 2 ^ j))) (stA 2 j) 0 (nI (hm j ^^^ 2 ^ i)) (stA 2 j) 0 = nI (hm j ^^^ 2 ^ i) := up2_at
  have ev : ∀ x, x ≠ 2 → up2 (up2 ν 2 (420 + i) (nI (hm i ^^^ 2 ^ j))) 2 (420 + j) (nI (hm j ^^^ 2 ^ i)) x = ν x := fun x h1 => by rw [up2_ne h1, up2_ne h1]
  have ev2 : ∀ y, y ≠ 420 + i → y ≠ 420 + j → up2 (up2 ν 2 (420 + i) (nI (hm i ^^^ 2 ^ j))) 2 (420 + j) (nI (hm j ^^^ 2 ^ i)) 2 y = ν 2 y := fun y h1 h2 => by rw [up2_k h2, up2_k h1]
  have evi : up2 (up2 ν 2 (420 + i) (nI (hm i ^^^ 2 ^ j))) 2 (420 + j) (nI (hm j ^^^ 2 ^ i)) 2 (420 + i) = nI (hm i ^^^ 2 ^ j) := by rw [up2_k (by omega), up2_at]
  have evj : up2 (up2 ν 2 (420 + i) (nI (hm i ^^^ 2 ^ j))) 2 (420 + j) (nI (hm j ^^^ 2 ^ i)) 2 (420 + j) = nI (hm j ^^^ 2 ^ i) := up2_at
  have hRA : ∀ x, x < N → RA (up2 (up2 μ (stA 2 i) 0 (nI (hm i ^^^ 2 ^ j))) (stA 2 j) 0 (nI (hm j ^^^ 2 ^ i))) (stA 2 x) (ν 2) (70 * x) t D := by
    intro x hx
    by_cases e1 : x = i
    · subst e1
      exact RA.frame (fun y h1 h2 => up2_ne (by unfold stA at h1 h2 ⊢; omega)) (fun _ _ _ => rfl) (hR x hx).hear
    · by_cases e2 : x = j
      · subst e2
        exact (RA.frame (μ := μ) (fun y h1 h2 => up2_ne (by unfold stA at h1 h2 ⊢; omega)) (fun _ _ _ => rfl) (hR x hx)).hear
      · exact RA.frame (fun y h1 h2 => eu y (by unfold stA at h1 h2 ⊢; omega) (by unfold stA at h1 h2 ⊢; omega)) (fun _ _ _ => rfl) (hR x hx)
  generalize up2 (up2 μ (stA 2 i) 0 (nI (hm i ^^^ 2 ^ j))) (stA 2 j) 0 (nI (hm j ^^^ 2 ^ i)) = u at *
  generalize up2 (up2 ν 2 (420 + i) (nI (hm i ^^^ 2 ^ j))) 2 (420 + j) (nI (hm j ^^^ 2 ^ i)) = v at *
  have e2 := eu 2 (by unfold stA; omega) (by unfold stA; omega)
  refine ⟨?_, ⟨z, by rw [e2]; exact z1, by rw [ev2 _ (by omega) (by omega)]; simpa using z2, z3⟩, by rw [e2]; exact h6, by rw [ev2 _ (by omega) (by omega)]; simpa using h6', by rw [e2, ev2 _ (by omega) (by omega)]; simpa using h7, fun k k1 k2 => by rw [eu _ (by unfold stA; omega) (by unfold stA; omega), ev2 _ (by omega) (by omega)]; exact hT k k1 k2, ⟨fun x => if x = i then hm i ^^^ 2 ^ j else if x = j then hm j ^^^ 2 ^ i else hm x, fun x hx => ?_, fun x y hx hy => ?_⟩, fun x hx => ?_⟩
  · unfold CFr; rw [e2, ev 0 (by omega)]; exact hcf
  · rw [show 0 + 420 + x = 420 + x by omega]
    by_cases e1 : x = i
    · subst e1
      simp only [if_true]
      exact ⟨(bit_x _ (hH x hx).1 j (by omega)).2.2.2, eui, evi⟩
    · by_cases e2 : x = j
      · subst e2
        simp only [if_neg e1, if_true]
        exact ⟨(bit_x _ (hH x hx).1 i (by omega)).2.2.2, euj, evj⟩
      · simp only [if_neg e1, if_neg e2]
        exact ⟨(hH x hx).1, by rw [eu _ (by unfold stA; omega) (by unfold stA; omega)]; exact (hH x hx).2.1, by rw [ev2 _ (by omega) (by omega)]; exact (hH x hx).2.2⟩
  · have hb : ∀ x y, x < N → y < N → (if x = i then hm i ^^^ 2 ^ j else if x = j then hm j ^^^ 2 ^ i else hm x).testBit y = (if (x = i ∧ y = j) ∨ (x = j ∧ y = i) then !(hm x).testBit y else (hm x).testBit y) := by
      intro x y hx hy
      by_cases e1 : x = i
      · subst e1
        rw [if_pos rfl, bit_y _ (hH x hx).1 j (by omega) y (by omega)]
        by_cases e3 : y = j
        · subst e3; simp
        · rw [if_neg e3, if_neg (by omega)]
      · by_cases e2 : x = j
        · subst e2
          rw [if_neg e1, if_pos rfl, bit_y _ (hH x hx).1 i (by omega) y (by omega)]
          by_cases e3 : y = i
          · subst e3; simp
          · rw [if_neg e3, if_neg (by omega)]
        · rw [if_neg e1, if_neg e2, if_neg (by omega)]
    show (if x = i then hm i ^^^ 2 ^ j else if x = j then hm j ^^^ 2 ^ i else hm x).testBit y = (if y = i then hm i ^^^ 2 ^ j else if y = j then hm j ^^^ 2 ^ i else hm y).testBit x
    rw [hb x y hx hy, hb y x hy hx, hsym x y hx hy]
    by_cases e : (x = i ∧ y = j) ∨ (x = j ∧ y = i)
    · rw [if_pos e, if_pos (by omega)]
    · rw [if_neg e, if_neg (by omega)]
  · rw [Nat.zero_add]
    exact RA.frame (fun _ _ _ => rfl) (fun k h1 h2 => ev2 k (by omega) (by omega)) (hRA x hx)

