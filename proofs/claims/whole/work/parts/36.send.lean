/-! the sending of one station, on both sides -/
def sdC (μ : Mem) (n o : Nat) (r : Int32) (u : Mem) : Prop := ktsP μ n o r ∧ ((r = 0 ∧ 0 < μ o 3 ∧ mbP μ n o ∧ u = up2 (sndF μ o r) o 3 (μ o 3 - 1)) ∨ (¬ (r = 0 ∧ 0 < μ o 3 ∧ mbP μ n o) ∧ u = sndF μ o r))
theorem snd_ne {μ : Mem} {o x : Nat} {r : Int32} (h : x ≠ o) (h6 : x ≠ o + 6) (h7 : x ≠ o + 7) : sndF μ o r x = μ x := by
  have e : sndA μ o r x = μ x := by
    unfold sndA; split
    · exact putF_ne h7
    · split <;> exact putF_ne h7
  unfold sndF; split
  · rw [up2_ne h, up2_ne h, putF_ne h6, e]
  · rw [putF_ne h6, e]
theorem snd_k {μ : Mem} {o k : Nat} {r : Int32} (h10 : k ≠ 10) (h11 : k ≠ 11) : sndF μ o r o k = μ o k := by
  have e : sndA μ o r o = μ o := by
    unfold sndA; split
    · exact putF_ne (by omega)
    · split <;> exact putF_ne (by omega)
  unfold sndF; split
  · rw [up2_k h10, up2_k h11, putF_ne (by omega), e]
  · rw [putF_ne (by omega), e]
theorem snd_k' {μ : Mem} {o k : Nat} {r : Int32} (h : ¬ r = 3) : sndF μ o r o k = μ o k := by
  have e : sndA μ o r o = μ o := by
    unfold sndA; split
    · exact putF_ne (by omega)
    · split <;> exact putF_ne (by omega)
  unfold sndF; rw [if_neg h, putF_ne (by omega), e]
theorem snd_6 {μ : Mem} {o : Nat} {r : Int32} : sndF μ o r (o + 6) 0 = 0 := by
  unfold sndF; split
  · rw [up2_ne (by omega), up2_ne (by omega)]; simp [putF, up2_ap]
  · simp [putF, up2_ap]
theorem snd_7 {μ : Mem} {o k : Nat} {r : Int32} : sndF μ o r (o + 7) k = sndA μ o r (o + 7) k := by
  unfold sndF; split
  · rw [up2_ne (by omega), up2_ne (by omega), putF_ne (by omega)]
  · rw [putF_ne (by omega)]
theorem wtP_fr {f f' : Nat → Int32} {b i : Nat} {sl as w : Int32} (hb : ∀ k, k < 70 → f' (b + 70 * i + k) = f (b + 70 * i + k)) (h1 : f' (b + 420 + i) = f (b + 420 + i)) (h2 : f' (b + 427) = f (b + 427)) (h : wtP f b i sl as w) : wtP f' b i sl as w := by
  unfold wtP mb2P freP at h ⊢
  rw [hb 21 (by omega), hb 24 (by omega), hb 29 (by omega), hb 26 (by omega), hb 27 (by omega), hb 8 (by omega), hb 3 (by omega), hb 2 (by omega), hb 10 (by omega), h1, h2]
  exact h
/-- what both sides need to know of a station that begins or goes on -/
theorem SR.first {μ : Mem} {o : Nat} {f : Nat → Int32} {c D : Nat} (h : SR μ o f c D) (hs : ¬ μ (o + 1) 0 = 0) : μ (o + 2) 0 = f (c + 9) ∧ μ (o + 3) 0 = f (c + 10) ∧ μ o 3 = f (c + 2) ∧ ∃ v, μ o 3 = nI v ∧ v < 64 := by
  obtain ⟨-, -, -, -, ⟨s, s1, s2, s3, s4, -⟩, -⟩ := h
  have hp : 0 < s := by
    rcases Nat.eq_zero_or_pos s with e | e
    · exact absurd (by rw [s1, e]; rfl) hs
    · exact e
  exact ⟨(s3 0 hp).1, (s3 0 hp).2, s4 hp⟩
theorem SR.part {μ u : Mem} {o : Nat} {f g : Nat → Int32} {c D : Nat} {a10 : Int32} (h : SR μ o f c D) (hs : ¬ μ (o + 1) 0 = 0) (hu : ∀ k, k ≤ 9 → u o k = μ o k) (hux : ∀ x, o + 1 ≤ x → x ≤ o + 5 → u x = μ x) (h11 : u o 11 = μ o 11 + 1) (h10 : u o 10 = a10) (ha : a10 = 0 ∨ a10 = 1) (g28 : g (c + 28) = f (c + 28) + 1) (g29 : g (c + 29) = a10) (hg : ∀ k, k < 70 → (k ≤ 20 ∨ 33 ≤ k) → g (c + k) = f (c + k)) : SR u o g c D := by
  have g0 : g c = f c := hg 0 (by omega) (by omega)
  obtain ⟨⟨a1, a2, a3, a4, a5, a6, a7, a8, a9, b10, a11⟩, ww, tt, kk, ⟨s, s1, s2, s3, s4, s5⟩, ⟨hd, q1, q2, q3⟩, b4⟩ := h
  refine ⟨⟨?_, ?_, ?_, ?_, ?_, ?_, ?_, ?_, ?_, ?_, ?_⟩, ?_, ?_, ?_, ⟨s, ?_, s2, ?_, ?_, ?_⟩, ⟨hd, ?_, q2, ?_⟩, ?_⟩
  · rw [hu _ (by omega), g0]; exact a1
  · rw [hu _ (by omega), hg _ (by omega) (by omega)]; exact a2
  · rw [hu _ (by omega), hg _ (by omega) (by omega)]; exact a3
  · rw [hu _ (by omega), hg _ (by omega) (by omega)]; exact a4
  · rw [hu _ (by omega), hg _ (by omega) (by omega)]; exact a5
  · rw [hu _ (by omega), hg _ (by omega) (by omega)]; exact a6
  · rw [hu _ (by omega), hg _ (by omega) (by omega)]; exact a7
  · rw [hux _ (by omega) (by omega), hg _ (by omega) (by omega)]; exact a8
  · rw [h11, g28, a9]
  · rw [hux _ (by omega) (by omega), hg _ (by omega) (by omega)]; exact b10
  · rw [h10, g29]
  · rw [hu _ (by omega)]; exact ww
  · rw [hu _ (by omega)]; exact tt
  · rw [hu _ (by omega)]; exact kk
  · rw [hux _ (by omega) (by omega)]; exact s1
  · intro k hk
    have := s3 k hk
    rw [hux _ (by omega) (by omega), hux _ (by omega) (by omega), show c + 9 + 2 * k = c + (9 + 2 * k) by omega, show c + (9 + 2 * k) + 1 = c + (10 + 2 * k) by omega, hg _ (by omega) (by omega), hg _ (by omega) (by omega)]
    rw [show c + 9 + 2 * k = c + (9 + 2 * k) by omega, show c + (9 + 2 * k) + 1 = c + (10 + 2 * k) by omega] at this
    exact this
  · rw [hu _ (by omega), hg _ (by omega) (by omega)]; exact s4
  · intro e; exact absurd (by rw [s1, e]; rfl) hs
  · rw [hux _ (by omega) (by omega)]; exact q1
  · intro k hk
    have := q3 k hk
    rw [hux _ (by omega) (by omega), show c + 34 + k = c + (34 + k) by omega, hg _ (by omega) (by omega)]
    rw [show c + 34 + k = c + (34 + k) by omega] at this
    exact this
  · rw [h10]; exact ha
