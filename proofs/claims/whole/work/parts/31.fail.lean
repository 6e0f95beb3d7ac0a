/-! a letter comes to be first; it fails; it is sent -/
def SR0 (μ : Mem) (o : Nat) (f : Nat → Int32) (c D : Nat) : Prop :=
  (μ o 1 = f c ∧ μ o 2 = f (c + 1) ∧ μ o 4 = f (c + 3) ∧ μ o 5 = f (c + 4) ∧ μ o 6 = f (c + 5) ∧ μ o 7 = f (c + 6) ∧ μ o 8 = f (c + 7) ∧ μ (o + 1) 0 = f (c + 8) ∧ μ (o + 4) 0 = f (c + 33)) ∧
  (∃ w, μ o 1 = nI w ∧ 1 ≤ w ∧ w ≤ 64) ∧ (∃ t, μ o 2 = nI t ∧ t < 7) ∧ (∃ k, μ o 8 = nI k ∧ k ≤ D) ∧
  (∃ s, μ (o + 1) 0 = nI s ∧ s ≤ 6 ∧ ∀ k, k < s → μ (o + 2) k = f (c + 9 + 2 * k) ∧ μ (o + 3) k = f (c + 9 + 2 * k + 1)) ∧
  (∃ h, μ (o + 4) 0 = nI h ∧ h ≤ 6 ∧ ∀ k, k < 4 * h → μ (o + 5) k = f (c + 34 + k))
theorem dwF_ne {μ : Mem} {n i x : Nat} (h : x ≠ stA n i) : dwF μ n i x = μ x := by
  unfold dwF; split <;> simp [up2, h]
theorem dwF_k {μ : Mem} {n i k : Nat} (h3 : k ≠ 3) (h8 : k ≠ 8) : dwF μ n i (stA n i) k = μ (stA n i) k := by
  unfold dwF; split <;> simp [up2_ap, h3, h8]
theorem wtsF_ne {f : Nat → Int32} {b i j : Nat} (h2 : j ≠ b + 70 * i + 2) (h7 : j ≠ b + 70 * i + 7) : wtsF f b i j = f j := by
  unfold wtsF; simp [upd_ap, h2, h7]
theorem cmsF_ne {f : Nat → Int32} {b i j : Nat} (h2 : j ≠ b + 70 * i + 2) (h7 : j ≠ b + 70 * i + 7) (h26 : j ≠ b + 70 * i + 26) (h28 : j ≠ b + 70 * i + 28) (h29 : j ≠ b + 70 * i + 29) : cmsF f b i j = f j := by
  unfold cmsF; split
  · simp [upd_ap, h26, h28, h29]
  · rw [wtsF_ne h2 h7]; simp [upd_ap, h26, h28, h29]
theorem cmsF_26 {f : Nat → Int32} {b i : Nat} : cmsF f b i (b + 70 * i + 26) = 0 := by
  unfold cmsF; split
  · simp [upd_ap]
  · rw [wtsF_ne (by omega) (by omega)]; simp [upd_ap]
theorem cmsF_28 {f : Nat → Int32} {b i : Nat} : cmsF f b i (b + 70 * i + 28) = 0 := by
  unfold cmsF; split
  · simp [upd_ap]
  · rw [wtsF_ne (by omega) (by omega)]; simp [upd_ap]
theorem cmsF_29 {f : Nat → Int32} {b i : Nat} : cmsF f b i (b + 70 * i + 29) = 0 := by
  unfold cmsF; split
  · simp [upd_ap]
  · rw [wtsF_ne (by omega) (by omega)]; simp [upd_ap]
theorem cm_rel {μ : Mem} {n i b D z : Nat} {f : Nat → Int32} (hi : i < 6) (hz : μ n 5 = nI z) (hz2 : f (b + 428) = nI z) (hz3 : z ≤ 9999) (hD : D < 100000) (hs : SR0 μ (stA n i) f (b + 70 * i) D) (h9 : μ (stA n i) 9 = 0) (h10 : μ (stA n i) 10 = 0) (h11 : μ (stA n i) 11 = 0) :
    SR (dwF μ n i) (stA n i) (cmsF f b i) (b + 70 * i) (D + 1) ∧ (dwF μ n i) (stA n i) 9 = 0 ∧ cmsF f b i (b + 70 * i + 26) = 0 := by
  obtain ⟨⟨a1, a2, a3, a4, a5, a6, a7, a8, a9⟩, ⟨w, w1, w2, w3⟩, ⟨t, t1, t2⟩, ⟨k, k1, k2⟩, ⟨s, s1, s2, s3⟩, ⟨h, q1, q2, q3⟩⟩ := hs
  have hn : n ≠ stA n i := by unfold stA; omega
  have hw1 : (1 : Int32) ≤ μ (stA n i) 1 := by rw [w1]; exact nI_le (a := 1) w2 (by omega)
  refine ⟨?_, by rw [dwF_k (by decide) (by decide)]; exact h9, cmsF_26⟩
  have key : (s = 0 → (dwF μ n i) (stA n i) 8 = μ (stA n i) 8 ∧ cmsF f b i (b + 70 * i + 7) = f (b + 70 * i + 7)) ∧ (0 < s → (dwF μ n i) (stA n i) 8 = μ (stA n i) 8 + 1 ∧ cmsF f b i (b + 70 * i + 7) = f (b + 70 * i + 7) + 1 ∧ (dwF μ n i) (stA n i) 3 = cmsF f b i (b + 70 * i + 2) ∧ ∃ v, (dwF μ n i) (stA n i) 3 = nI v ∧ v < 64) := by
    constructor
    · intro e
      subst e
      have e1 : μ (stA n i + 1) 0 = 0 := s1
      have e2 : f (b + 70 * i + 8) ≤ 0 := by rw [← a8, e1]; decide
      unfold dwF cmsF
      rw [if_pos (Or.inl e1), if_pos e2]
      simp [up2_ap, upd_ap]
    · intro e
      have e1 : ¬ μ (stA n i + 1) 0 = 0 := by rw [s1]; exact nI_ne0 e (by omega)
      have e2 : ¬ f (b + 70 * i + 8) ≤ 0 := by rw [← a8, s1]; exact nI_nle e (by omega)
      obtain ⟨v, hv, ev⟩ := drn_ok (z := z) (i := i) (k := k) (w := w) hz3 hi (by omega) w2 w3
      have e3 : remF (drnF (μ n 5) (nI i) (μ (stA n i) 8)) (μ (stA n i) 1) = nI v := by rw [hz, k1, w1]; exact ev
      have e4 : remF (drnF (f (b + 428)) (nI i) (f (b + 70 * i + 7))) (f (b + 70 * i)) = nI v := by rw [hz2, ← a7, ← a1, k1, w1]; exact ev
      have n1 : ¬ b + 428 = b + 70 * i + 28 := by omega
      have n2 : ¬ b + 428 = b + 70 * i + 29 := by omega
      have n3 : ¬ b + 428 = b + 70 * i + 26 := by omega
      unfold dwF cmsF
      rw [if_neg (by simp [e1, hw1]), if_neg e2]
      simp [up2_ap, upd_ap, wtsF, n1, n2, n3, e3, e4]
      exact ⟨v, rfl, hv⟩
  have hdr : ∃ k', (dwF μ n i) (stA n i) 8 = nI k' ∧ k' ≤ D + 1 := by
    rcases Nat.eq_zero_or_pos s with e | e
    · exact ⟨k, by rw [(key.1 e).1, k1], by omega⟩
    · exact ⟨k + 1, by rw [(key.2 e).1, k1, nI_1], by omega⟩
  have hd8 : (dwF μ n i) (stA n i) 8 = cmsF f b i (b + 70 * i + 7) := by
    rcases Nat.eq_zero_or_pos s with e | e
    · rw [(key.1 e).1, (key.1 e).2, a7]
    · rw [(key.2 e).1, (key.2 e).2.1, a7]
  refine ⟨⟨?_, ?_, ?_, ?_, ?_, ?_, hd8, ?_, ?_, ?_, ?_⟩, ⟨w, ?_, w2, w3⟩, ⟨t, ?_, t2⟩, hdr, ⟨s, ?_, s2, ?_, ?_, ?_⟩, ⟨h, ?_, q2, ?_⟩, ?_⟩
  · rw [dwF_k (by decide) (by decide), cmsF_ne (by omega) (by omega) (by omega) (by omega) (by omega)]; exact a1
  · rw [dwF_k (by decide) (by decide), cmsF_ne (by omega) (by omega) (by omega) (by omega) (by omega)]; exact a2
  · rw [dwF_k (by decide) (by decide), cmsF_ne (by omega) (by omega) (by omega) (by omega) (by omega)]; exact a3
  · rw [dwF_k (by decide) (by decide), cmsF_ne (by omega) (by omega) (by omega) (by omega) (by omega)]; exact a4
  · rw [dwF_k (by decide) (by decide), cmsF_ne (by omega) (by omega) (by omega) (by omega) (by omega)]; exact a5
  · rw [dwF_k (by decide) (by decide), cmsF_ne (by omega) (by omega) (by omega) (by omega) (by omega)]; exact a6
  · rw [dwF_ne (by omega), cmsF_ne (by omega) (by omega) (by omega) (by omega) (by omega)]; exact a8
  · rw [dwF_k (by decide) (by decide), cmsF_28]; exact h11
  · rw [dwF_ne (by omega), cmsF_ne (by omega) (by omega) (by omega) (by omega) (by omega)]; exact a9
  · rw [dwF_k (by decide) (by decide), cmsF_29]; exact h10
  · rw [dwF_k (by decide) (by decide)]; exact w1
  · rw [dwF_k (by decide) (by decide)]; exact t1
  · rw [dwF_ne (by omega)]; exact s1
  · intro k' hk'
    rw [dwF_ne (by omega), dwF_ne (by omega), cmsF_ne (by omega) (by omega) (by omega) (by omega) (by omega), cmsF_ne (by omega) (by omega) (by omega) (by omega) (by omega)]
    exact s3 k' hk'
  · intro e; exact (key.2 e).2.2
  · intro _
    rw [dwF_k (by decide) (by decide), dwF_k (by decide) (by decide), dwF_k (by decide) (by decide)]
    exact ⟨h9, h10, h11⟩
  · rw [dwF_ne (by omega)]; exact q1
  · intro k' hk'
    rw [dwF_ne (by omega), cmsF_ne (by omega) (by omega) (by omega) (by omega) (by omega)]
    exact q3 k' hk'
  · rw [dwF_k (by decide) (by decide)]; exact Or.inl h10
/-- the row without its first letter -/
theorem rmv_0 {μ : Mem} {o s : Nat} : rmvF μ (o + 1) s (o + 1) 0 = nI s := by simp [rmvF, upA_ap, up2_ap]
theorem rmv_ne {μ : Mem} {o s x : Nat} (h1 : x ≠ o + 1) (h2 : x ≠ o + 2) (h3 : x ≠ o + 3) : rmvF μ (o + 1) s x = μ x := by
  unfold rmvF; rw [upA_ne (by omega), upA_ne (by omega), up2_ne (by omega)]
theorem rmv_to {μ : Mem} {o s k : Nat} (h : k < s) : rmvF μ (o + 1) s (o + 2) k = μ (o + 2) (k + 1) := by
  unfold rmvF
  rw [upA_ne (by omega), show o + 2 = o + 1 + 1 from rfl, upA_at, pk_cpy_in (by omega) (by omega)]
  congr 1; omega
theorem rmv_len {μ : Mem} {o s k : Nat} (h : k < s) : rmvF μ (o + 1) s (o + 3) k = μ (o + 3) (k + 1) := by
  unfold rmvF
  rw [show o + 3 = o + 1 + 2 from rfl, upA_at, pk_cpy_in (by omega) (by omega)]
  congr 1; omega
theorem shf_in {f : Nat → Int32} {a n j : Nat} (h1 : a ≤ j) (h2 : j < a + 2 * n) : shfF f a n j = f (j + 2) := if_pos ⟨h1, h2⟩
theorem shf_out {f : Nat → Int32} {a n j : Nat} (h : ¬ (a ≤ j ∧ j < a + 2 * n)) : shfF f a n j = f j := if_neg h
/-- the first letter is over -/
theorem ov_rel {μ : Mem} {n i b D z s l : Nat} {f : Nat → Int32} {L : Int32} (hi : i < 6) (hn : n + 1 < stA n i) (hz : μ n 5 = nI z) (hz2 : f (b + 428) = nI z) (hz3 : z ≤ 9999) (hD : D < 100000) (hL : L = nI l) (hl1 : 1 ≤ l) (hl2 : l ≤ 64)
    (a3 : μ (stA n i) 4 = f (b + 70 * i + 3)) (a4 : μ (stA n i) 5 = f (b + 70 * i + 4)) (a5 : μ (stA n i) 6 = f (b + 70 * i + 5)) (a6 : μ (stA n i) 7 = f (b + 70 * i + 6)) (a7 : μ (stA n i) 8 = f (b + 70 * i + 7)) (a9 : μ (stA n i + 4) 0 = f (b + 70 * i + 33))
    (hk : ∃ k, μ (stA n i) 8 = nI k ∧ k ≤ D) (hs : s < 6) (s3 : ∀ k, k < s + 1 → μ (stA n i + 2) k = f (b + 70 * i + 9 + 2 * k) ∧ μ (stA n i + 3) k = f (b + 70 * i + 9 + 2 * k + 1)) (hh : ∃ h, μ (stA n i + 4) 0 = nI h ∧ h ≤ 6 ∧ ∀ k, k < 4 * h → μ (stA n i + 5) k = f (b + 70 * i + 34 + k)) (h9 : μ (stA n i) 9 = 0) (h10 : μ (stA n i) 10 = 0) :
    SR (dwF (clsF μ (stA n i) s L) n i) (stA n i) (ovsF f b i s L) (b + 70 * i) (D + 1) ∧ (dwF (clsF μ (stA n i) s L) n i) (stA n i) 9 = 0 ∧ ovsF f b i s L (b + 70 * i + 26) = 0 := by
  obtain ⟨h, q1, q2, q3⟩ := hh
  have co : ∀ k, k ≠ 11 → k ≠ 2 → k ≠ 1 → clsF μ (stA n i) s L (stA n i) k = μ (stA n i) k := by
    intro k k1 k2 k3
    unfold clsF
    rw [up2_k k3, up2_k k2, up2_k k1, rmv_ne (by omega) (by omega) (by omega)]
  have cx : ∀ x, x ≠ stA n i → clsF μ (stA n i) s L x = rmvF μ (stA n i + 1) s x := by
    intro x hx
    unfold clsF
    rw [up2_ne hx, up2_ne hx, up2_ne hx]
  have go : ∀ j, j ≠ b + 70 * i → j ≠ b + 70 * i + 1 → j ≠ b + 70 * i + 8 → ¬ (b + 70 * i + 9 ≤ j ∧ j < b + 70 * i + 9 + 2 * s) → (upd (upd (shfF (upd f (b + 70 * i + 8) (nI s)) (b + 70 * i + 9) s) (b + 70 * i + 1) 0) (b + 70 * i) L) j = f j := by
    intro j j0 j1 j8 jr
    rw [upd_ne j0, upd_ne j1, shf_out jr, upd_ne j8]
  unfold ovsF
  refine cm_rel (z := z) hi ?_ ?_ hz3 hD ⟨⟨?_, ?_, ?_, ?_, ?_, ?_, ?_, ?_, ?_⟩, ⟨l, ?_, hl1, hl2⟩, ⟨0, ?_, by decide⟩, ?_, ⟨s, ?_, by omega, ?_⟩, ⟨h, ?_, q2, ?_⟩⟩ ?_ ?_ ?_
  · rw [cx n (by omega), rmv_ne (by omega) (by omega) (by omega)]; exact hz
  · rw [go _ (by omega) (by omega) (by omega) (by omega)]; exact hz2
  · rw [upd_at]; unfold clsF; rw [up2_at]
  · rw [upd_ne (by omega), upd_at]; unfold clsF; rw [up2_k (by decide), up2_at]
  · rw [co _ (by decide) (by decide) (by decide), go _ (by omega) (by omega) (by omega) (by omega)]; exact a3
  · rw [co _ (by decide) (by decide) (by decide), go _ (by omega) (by omega) (by omega) (by omega)]; exact a4
  · rw [co _ (by decide) (by decide) (by decide), go _ (by omega) (by omega) (by omega) (by omega)]; exact a5
  · rw [co _ (by decide) (by decide) (by decide), go _ (by omega) (by omega) (by omega) (by omega)]; exact a6
  · rw [co _ (by decide) (by decide) (by decide), go _ (by omega) (by omega) (by omega) (by omega)]; exact a7
  · rw [cx _ (by omega), rmv_0, upd_ne (by omega), upd_ne (by omega), shf_out (by omega), upd_at]
  · rw [cx _ (by omega), rmv_ne (by omega) (by omega) (by omega), go _ (by omega) (by omega) (by omega) (by omega)]; exact a9
  · unfold clsF; rw [up2_at]; exact hL
  · unfold clsF; rw [up2_k (by decide), up2_at]; rfl
  · rw [co _ (by decide) (by decide) (by decide)]; exact hk
  · rw [cx _ (by omega), rmv_0]
  · intro k hk
    have hx := s3 (k + 1) (by omega)
    rw [cx _ (by omega), cx _ (by omega), rmv_to hk, rmv_len hk, upd_ne (by omega), upd_ne (by omega), upd_ne (by omega), upd_ne (by omega), shf_in (by omega) (by omega), shf_in (by omega) (by omega), upd_ne (by omega), upd_ne (by omega)]
    rw [show b + 70 * i + 9 + 2 * k + 2 = b + 70 * i + 9 + 2 * (k + 1) by omega, show b + 70 * i + 9 + 2 * k + 1 + 2 = b + 70 * i + 9 + 2 * (k + 1) + 1 by omega]
    exact hx
  · rw [cx _ (by omega), rmv_ne (by omega) (by omega) (by omega)]; exact q1
  · intro k hk
    rw [cx _ (by omega), rmv_ne (by omega) (by omega) (by omega), go _ (by omega) (by omega) (by omega) (by omega)]
    exact q3 k hk
  · rw [co _ (by decide) (by decide) (by decide)]; exact h9
  · rw [co _ (by decide) (by decide) (by decide)]; exact h10
  · unfold clsF; rw [up2_k (by decide), up2_k (by decide), up2_at]
