/-! letter agrees -/
theorem NR.one {μ u ν v : Mem} {N t D D' i : Nat} (h : NR μ 2 ν 0 N t D) (hi : i < N) (hN : N ≤ 6) (hu : ∀ x, (x < stA 2 i ∨ stA 2 i + 6 < x) → u x = μ x) (hu0 : u (stA 2 i) 0 = μ (stA 2 i) 0) (hv : v 0 = ν 0) (hv2 : ∀ j, (j < 70 * i ∨ 70 * i + 70 ≤ j) → v 2 j = ν 2 j) (hD : D ≤ D') (hRA : RA u (stA 2 i) (v 2) (70 * i) t D') : NR u 2 v 0 N t D' := by
  obtain ⟨hcf, ⟨z, z1, z2, z3⟩, h6, h6', h7, hT, ⟨hm, hH, hsym⟩, hR⟩ := h
  have e2 : u 2 = μ 2 := hu 2 (Or.inl (by unfold stA; omega))
  refine ⟨by unfold CFr; rw [e2, hv]; exact hcf, ⟨z, by rw [e2]; exact z1, by rw [hv2 _ (by omega)]; exact z2, z3⟩, by rw [e2]; exact h6, by rw [hv2 _ (by omega)]; exact h6', by rw [e2, hv2 _ (by omega)]; exact h7, fun k k1 k2 => by rw [hu (2 + 1) (Or.inl (by unfold stA; omega)), hv2 _ (by omega)]; exact hT k k1 k2, ⟨hm, fun x hx => ⟨(hH x hx).1, ?_, by rw [hv2 _ (by omega)]; exact (hH x hx).2.2⟩, hsym⟩, fun x hx => ?_⟩
  · by_cases e : x = i
    · subst e; rw [hu0]; exact (hH x hx).2.1
    · rw [hu _ (by unfold stA; omega)]; exact (hH x hx).2.1
  · by_cases e : x = i
    · subst e; rw [Nat.zero_add]; exact hRA
    · exact RA.frame (fun y h1 h2 => hu y (by unfold stA at h1 h2 ⊢; omega)) (fun k h1 h2 => hv2 k (by omega)) ((hR x hx).mono hD)

