/-! letter: a row grows -/
def adF (f : Nat → Int32) (c s : Nat) (to l : Int32) : Nat → Int32 := upd (upd (upd f (c + 9 + 2 * s) to) (c + 9 + 2 * s + 1) l) (c + 8) (nI (s + 1))
theorem adF_ne {f : Nat → Int32} {c s j : Nat} {to l : Int32} (h1 : j ≠ c + 9 + 2 * s) (h2 : j ≠ c + 9 + 2 * s + 1) (h3 : j ≠ c + 8) : adF f c s to l j = f j := by
  unfold adF; rw [upd_ne h3, upd_ne h2, upd_ne h1]
theorem add_o {μ : Mem} {o s x : Nat} {to l : Int32} (h1 : x ≠ o + 1) (h2 : x ≠ o + 2) (h3 : x ≠ o + 3) : addF μ (o + 1) s to l x = μ x := by
  unfold addF; rw [up2_ne h1, up2_ne (by omega), up2_ne (by omega)]
theorem adF_c {f : Nat → Int32} {c s k : Nat} {to l : Int32} (hs : s < 6) (hk : k < 8 ∨ 21 ≤ k) : adF f c s to l (c + k) = f (c + k) := adF_ne (by omega) (by omega) (by omega)

theorem SR0.add {μ : Mem} {o s : Nat} {f : Nat → Int32} {c D : Nat} {to l : Int32} (h : SR μ o f c D) (hs : μ (o + 1) 0 = nI s) (hl : s < 6) : SR0 (addF μ (o + 1) s to l) o (adF f c s to l) c D := by
  obtain ⟨⟨a1, a2, a3, a4, a5, a6, a7, a8, a9, a10, a11⟩, w, tt, kk, ⟨s', s1, s2, s3, s4, s5⟩, ⟨hd, q1, q2, q3⟩, b4⟩ := h
  obtain rfl : s = s' := (nI_eq (by omega) (by omega)).mp (hs.symm.trans s1)
  have e0 : addF μ (o + 1) s to l o = μ o := add_o (by omega) (by omega) (by omega)
  have e4 : addF μ (o + 1) s to l (o + 4) = μ (o + 4) := add_o (by omega) (by omega) (by omega)
  have e5 : addF μ (o + 1) s to l (o + 5) = μ (o + 5) := add_o (by omega) (by omega) (by omega)
  have g := fun k hk => adF_c (f := f) (c := c) (s := s) (k := k) (to := to) (l := l) hl hk
  have g0 : adF f c s to l c = f c := g 0 (by omega)
  unfold SR0
  rw [e0, e4, e5, g0, g 1 (by omega), g 3 (by omega), g 4 (by omega), g 5 (by omega), g 6 (by omega), g 7 (by omega), g 33 (by omega)]
  refine ⟨⟨a1, a2, a3, a4, a5, a6, a7, ?_, a10⟩, w, tt, kk, ⟨s + 1, ?_, by omega, fun k hk => ?_⟩, ⟨hd, q1, q2, fun k hk => ?_⟩⟩
  · unfold addF adF; rw [up2_at, upd_at]
  · unfold addF; exact up2_at
  · have u2 : addF μ (o + 1) s to l (o + 2) k = if k = s then to else μ (o + 2) k := by
      unfold addF; rw [up2_ne (by omega), up2_ne (by omega), up2_ap]; simp
    have u3 : addF μ (o + 1) s to l (o + 3) k = if k = s then l else μ (o + 3) k := by
      unfold addF; rw [up2_ne (by omega), show o + 1 + 2 = o + 3 by omega, up2_ap, up2_ne (by omega)]; simp
    rw [u2, u3]
    by_cases e : k = s
    · subst e
      rw [if_pos rfl, if_pos rfl]
      unfold adF
      rw [upd_ne (by omega), upd_ne (by omega), upd_at, upd_ne (by omega), upd_at]
      exact ⟨rfl, rfl⟩
    · rw [if_neg e, if_neg e, adF_ne (by omega) (by omega) (by omega), adF_ne (by omega) (by omega) (by omega)]
      exact s3 k (by omega)
  · rw [show c + 34 + k = c + (34 + k) by omega, g (34 + k) (by omega), show c + (34 + k) = c + 34 + k by omega]; exact q3 k hk

theorem RA.add1 {μ : Mem} {o s : Nat} {f : Nat → Int32} {c t D : Nat} {to l : Int32} (h : RA μ o f c t D) (hs : μ (o + 1) 0 = nI s) (hl : s < 6) (h0 : s ≠ 0) : RA (addF μ (o + 1) s to l) o (adF f c s to l) c t D := by
  obtain ⟨hS, hA, hO, hP, hE⟩ := h
  obtain ⟨⟨a1, a2, a3, a4, a5, a6, a7, a8, a9⟩, w, tt, kk, ⟨s', s1, s2, s3⟩, m⟩ := SR0.add (to := to) (l := l) hS hs hl
  obtain ⟨⟨-, -, -, -, -, -, -, -, b9, -, b11⟩, -, -, -, ⟨s'', r1, r2, r3, r4, r5⟩, -, b4⟩ := hS
  obtain rfl : s = s'' := (nI_eq (by omega) (by omega)).mp (hs.symm.trans r1)
  have e0 : addF μ (o + 1) s to l o = μ o := add_o (by omega) (by omega) (by omega)
  have e6 : addF μ (o + 1) s to l (o + 6) = μ (o + 6) := add_o (by omega) (by omega) (by omega)
  have es : s' = s + 1 := (nI_eq (by omega) (by omega)).mp (s1.symm.trans (by unfold addF; exact up2_at))
  have g := fun k hk => adF_c (f := f) (c := c) (s := s) (k := k) (to := to) (l := l) hl hk
  refine ⟨⟨⟨a1, a2, a3, a4, a5, a6, a7, a8, ?_, a9, ?_⟩, w, tt, kk, ⟨s', s1, s2, s3, fun _ => ?_, fun e => by omega⟩, m, ?_⟩, ?_, ?_, ?_, ?_⟩
  · rw [e0, g 28 (by omega)]; exact b9
  · rw [e0, g 29 (by omega)]; exact b11
  · rw [e0, g 2 (by omega)]; exact r4 (by omega)
  · rw [e0]; exact b4
  · unfold AWr; rw [e0, g 26 (by omega), g 27 (by omega)]; exact hA
  · unfold OWr; rw [e6, g 21 (by omega), g 22 (by omega), g 23 (by omega), g 24 (by omega), g 25 (by omega)]; exact hO
  · unfold PAr; rw [e0, g 30 (by omega), g 31 (by omega), g 32 (by omega)]; exact hP
  · rw [e0, e6]; exact hE

theorem cms_k {f : Nat → Int32} {b i k : Nat} (h2 : k ≠ 2) (h7 : k ≠ 7) (h26 : k ≠ 26) (h28 : k ≠ 28) (h29 : k ≠ 29) : cmsF f b i (b + 70 * i + k) = f (b + 70 * i + k) := by
  unfold cmsF wtsF
  split <;> simp [upd_ap, h2, h7, h26, h28, h29]
theorem RA.add0 {μ : Mem} {n i b z : Nat} {f : Nat → Int32} {t D : Nat} {to l : Int32} (hi : i < 6) (h : RA μ (stA n i) f (b + 70 * i) t D) (hs : μ (stA n i + 1) 0 = nI 0) (hz : μ n 5 = nI z) (hz2 : f (b + 428) = nI z) (hz3 : z ≤ 9999) (hD : D < 100000) : RA (dwF (addF μ (stA n i + 1) 0 to l) n i) (stA n i) (cmsF (adF f (b + 70 * i) 0 to l) b i) (b + 70 * i) t (D + 1) := by
  obtain ⟨hS, hA, hO, hP, hE⟩ := h
  have hS0 := SR0.add (to := to) (l := l) hS hs (by omega)
  obtain ⟨-, -, -, -, ⟨s'', r1, r2, r3, r4, r5⟩, -, b4⟩ := hS
  obtain rfl : 0 = s'' := (nI_eq (by omega) (by omega)).mp (hs.symm.trans r1)
  obtain ⟨h9, h10, h11⟩ := r5 rfl
  have e0 : addF μ (stA n i + 1) 0 to l (stA n i) = μ (stA n i) := add_o (by omega) (by omega) (by omega)
  have en : addF μ (stA n i + 1) 0 to l n = μ n := add_o (by unfold stA; omega) (by unfold stA; omega) (by unfold stA; omega)
  have e6 : dwF (addF μ (stA n i + 1) 0 to l) n i (stA n i + 6) = μ (stA n i + 6) := by rw [dwF_ne (by omega)]; exact add_o (by omega) (by omega) (by omega)
  obtain ⟨k1, k2, k3⟩ := cm_rel (D := D) hi (by rw [en]; exact hz) (by rw [adF_ne (by omega) (by omega) (by omega)]; exact hz2) hz3 hD hS0 (by rw [e0]; exact h9) (by rw [e0]; exact h10) (by rw [e0]; exact h11)
  have g : ∀ k, (k = 21 ∨ k = 22 ∨ k = 23 ∨ k = 24 ∨ k = 25 ∨ k = 30 ∨ k = 31 ∨ k = 32) → cmsF (adF f (b + 70 * i) 0 to l) b i (b + 70 * i + k) = f (b + 70 * i + k) := fun k hk => by rw [cms_k (by omega) (by omega) (by omega) (by omega) (by omega), adF_c (by omega) (by omega)]
  refine ⟨k1, Or.inl ⟨k2, k3⟩, ?_, ?_, fun q => absurd k2 q⟩
  · unfold OWr; rw [e6, g 21 (by omega), g 22 (by omega), g 23 (by omega), g 24 (by omega), g 25 (by omega)]; exact hO
  · unfold PAr; rw [dwF_k (by omega) (by omega), dwF_k (by omega) (by omega), dwF_k (by omega) (by omega), e0, g 30 (by omega), g 31 (by omega), g 32 (by omega)]; exact hP

