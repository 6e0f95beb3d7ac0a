/-! letter agrees -/
theorem NR.one {μ u ν v : Mem} {N t D D' i : Nat} (h : NR μ 2 ν 0 N t D) (hi : i < N) (hN : N ≤ 6) (hu : ∀ x, (x < stA 2 i ∨ stA 2 i + 6 < x) → u x = μ x) (hu0 : u (stA 2 i) 0 = μ (stA 2 i) 0) (hv : v 0 = ν 0) (hv2 : ∀ j, (j < 70 * i ∨ 70 * i + 70 ≤ j) → v 2 j = ν 2 j) (hD : D ≤ D') (hRA : RA u (stA 2 i) (v 2) (70 * i) t D') : NR u 2 v 0 N t D' := by
  obtain ⟨hcf, ⟨z, z1, z2, z3⟩, h6, h6', h7, hT, ⟨hm, hH, hsym⟩, hR⟩ := h
  have e2 : u 2 = μ 2 := hu 2 (Or.inl (by unfold stA; omega))
  refine ⟨by unfold CFr; rw [e2, hv]; exact hcf, ⟨z, by rw [e2]; exact z1, by rw [hv2 _ (by omega)]; exact z2, z3⟩, by rw [e2]; exact h6, by rw [hv2 _ (by omega)]; exact h6', by rw [e2, hv2 _ (by omega)]; exact h7, fun k k1 k2 => by rw [hu (2 + 1) (Or.inl (by unfold stA; omega)), hv2 _ (by omega)]; exact hT k k1 k2, ⟨hm, fun x hx => ⟨(hH x hx).1, ?_, by rw [hv2 _ (by omega)]; exact (hH x hx).2.2⟩, hsym⟩, fun x hx => ?_⟩
  · by_cases e : x = i
    · subst e; rw [hu0]; exact (hH x hx).2.1
    · rw [hu _ (by unfold stA; omega)]; exact (hH x hx).2.1
  · by_cases e : x = i
    · subst e; rw [Nat.zero_add]; exact hRA
    · exact RA.frame (fun y h1 h2 => hu y (by unfold stA at h1 h2 ⊢; omega)) (fun k h1 h2 => hv2 k (by omega)) ((hR x hx).mono hD)

theorem ads_2 {ν : Mem} {i s : Nat} {to l : Int32} : adsF ν 0 i s to l 2 = adF (ν 2) (70 * i) s to l := by
  unfold adsF adF; rw [up2_row, up2_row, up2_row]; simp only [Nat.mul_zero, Nat.zero_add]
theorem ads_x {ν : Mem} {i s x : Nat} {to l : Int32} (h : x ≠ 2) : adsF ν 0 i s to l x = ν x := by
  unfold adsF; rw [up2_ne h, up2_ne h, up2_ne h]
theorem adF_out {f : Nat → Int32} {i s j : Nat} {to l : Int32} (hs : s < 6) (hj : j < 70 * i ∨ 70 * i + 70 ≤ j) : adF f (70 * i) s to l j = f j := adF_ne (by omega) (by omega) (by omega)
theorem cms_out {f : Nat → Int32} {i j : Nat} (hj : j < 70 * i ∨ 70 * i + 70 ≤ j) : cmsF f 0 i j = f j := by
  unfold cmsF wtsF
  split <;> (rw [upd_ne (by omega), upd_ne (by omega), upd_ne (by omega)]; try rw [upd_ne (by omega), upd_ne (by omega)])
/-- one station has changed on both sides -/
theorem GR.one {μ u ν v : Mem} {N t D i : Nat} (hG : GR μ ν D) (ht : t ≤ 9999) (h : NR μ 2 ν 0 N t D) (hi : i < N) (hN : N ≤ 6) (hu : ∀ x, (x < stA 2 i ∨ stA 2 i + 6 < x) → u x = μ x) (hu0 : u (stA 2 i) 0 = μ (stA 2 i) 0) (hv : ∀ x, x ≠ 2 → v x = ν x) (hv2 : ∀ j, (j < 70 * i ∨ 70 * i + 70 ≤ j) → v 2 j = ν 2 j) (hRA : RA u (stA 2 i) (v 2) (70 * i) t (D + 1)) : GR u v (D + 1) := by
  have hR := NR.one h hi hN hu hu0 (hv 0 (by omega)) hv2 (Nat.le_succ D) hRA
  refine hG.net (Nat.le_succ D) (fun x hx => hu x (by unfold stA; omega)) (fun x _ h2 => hv x h2) (fun N' t' hN' ht' hB' => ?_)
  obtain rfl : N = N' := (nI_eq (by omega) (by have := hN'.1.1.2.2.2.1; omega)).mp (h.1.1.symm.trans hN'.1.1.1)
  obtain rfl : t = t' := (nI_eq (by omega) (by omega)).mp (h.2.2.1.symm.trans hN'.1.2.2.1)
  refine ⟨t, ⟨hR, hN'.2.row (hu _ (Or.inl (by unfold stA; omega)))⟩, ht, fun x hx => ?_⟩
  by_cases e : x = i
  · subst e; exact hRA.1.2.2.2.2.2.2
  · rw [hu _ (by unfold stA; omega)]; exact hB' x hx

