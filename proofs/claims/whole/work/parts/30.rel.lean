/-! THE RELATION between a station o of the class and the station i of the reference's row f (c = b + 70 i): SR what stands, AWr what is awaited (in slot a), OWr what is owed (t slots have gone by), PAr the parts got -/
def SR (μ : Mem) (o : Nat) (f : Nat → Int32) (c D : Nat) : Prop :=
  (μ o 1 = f c ∧ μ o 2 = f (c + 1) ∧ μ o 4 = f (c + 3) ∧ μ o 5 = f (c + 4) ∧ μ o 6 = f (c + 5) ∧ μ o 7 = f (c + 6) ∧ μ o 8 = f (c + 7) ∧ μ (o + 1) 0 = f (c + 8) ∧ μ o 11 = f (c + 28) ∧ μ (o + 4) 0 = f (c + 33) ∧ μ o 10 = f (c + 29)) ∧
  (∃ w, μ o 1 = nI w ∧ 1 ≤ w ∧ w ≤ 64) ∧ (∃ t, μ o 2 = nI t ∧ t < 7) ∧ (∃ k, μ o 8 = nI k ∧ k ≤ D) ∧
  (∃ s, μ (o + 1) 0 = nI s ∧ s ≤ 6 ∧ (∀ k, k < s → μ (o + 2) k = f (c + 9 + 2 * k) ∧ μ (o + 3) k = f (c + 9 + 2 * k + 1)) ∧ (0 < s → μ o 3 = f (c + 2) ∧ ∃ v, μ o 3 = nI v ∧ v < 64) ∧ (s = 0 → μ o 9 = 0 ∧ μ o 10 = 0 ∧ μ o 11 = 0)) ∧
  (∃ h, μ (o + 4) 0 = nI h ∧ h ≤ 6 ∧ ∀ k, k < 4 * h → μ (o + 5) k = f (c + 34 + k)) ∧
  (μ o 10 = 0 ∨ μ o 10 = 1)
def AWr (μ : Mem) (o : Nat) (f : Nat → Int32) (c a : Nat) : Prop :=
  (μ o 9 = 0 ∧ f (c + 26) = 0) ∨ (μ o 9 = 2 ∧ f (c + 26) = 1 ∧ f (c + 27) = nI a ∧ μ o 10 = 0) ∨ (μ o 9 = 4 ∧ f (c + 26) = 2 ∧ f (c + 27) = nI a ∧ μ o 10 = 0)
def OWr (μ : Mem) (o : Nat) (f : Nat → Int32) (c t : Nat) : Prop :=
  ∃ g d, f (c + 21) = nI g ∧ f (c + 24) = nI d ∧ g ≤ t + 1 ∧ d ≤ t + 1 ∧ ((μ (o + 6) 0 = 0 ∧ g ≤ t ∧ d ≤ t) ∨ (μ (o + 6) 0 = 2 ∧ g = t + 1 ∧ μ (o + 6) 1 = f (c + 22) ∧ μ (o + 6) 2 = f (c + 23)) ∨ (μ (o + 6) 0 = 4 ∧ g ≤ t ∧ d = t + 1 ∧ μ (o + 6) 1 = f (c + 25)))
def PAr (μ : Mem) (o : Nat) (f : Nat → Int32) (c t : Nat) : Prop :=
  ∃ p g, μ o 14 = nI p ∧ f (c + 32) = nI g ∧ p ≤ t ∧ g ≤ t ∧ ∀ fr q : Int32, ¬ q = 0 → ((μ o 12 = fr ∧ μ o 13 = q ∧ p = t) ↔ (f (c + 30) = fr ∧ f (c + 31) = q ∧ g = t))
def RA (μ : Mem) (o : Nat) (f : Nat → Int32) (c t D : Nat) : Prop := SR μ o f c D ∧ AWr μ o f c (t + 1) ∧ OWr μ o f c t ∧ PAr μ o f c t ∧ (¬ μ o 9 = 0 → μ (o + 6) 0 = 0)
/-- these speak of the station's eight objects and of seventy places of the row alone -/
theorem RA.frame {μ μ' : Mem} {o : Nat} {f f' : Nat → Int32} {c t D : Nat} (hm : ∀ x, o ≤ x → x ≤ o + 6 → μ' x = μ x) (hf : ∀ j, c ≤ j → j < c + 70 → f' j = f j) (h : RA μ o f c t D) : RA μ' o f' c t D := by
  have e0 := hm o (by omega) (by omega)
  have e1 := hm (o + 1) (by omega) (by omega)
  have e2 := hm (o + 2) (by omega) (by omega)
  have e3 := hm (o + 3) (by omega) (by omega)
  have e4 := hm (o + 4) (by omega) (by omega)
  have e5 := hm (o + 5) (by omega) (by omega)
  have e6 := hm (o + 6) (by omega) (by omega)
  have g : ∀ k, k < 70 → f' (c + k) = f (c + k) := fun k hk => hf (c + k) (by omega) (by omega)
  have g0 := hf c (by omega) (by omega)
  obtain ⟨⟨⟨a1, a2, a3, a4, a5, a6, a7, a8, a9, a10, a11⟩, b1, b2, b3, ⟨s, s1, s2, s3, s4, s5⟩, ⟨hd, q1, q2, q3⟩, b4⟩, h2, ⟨gg, dd, r1, r2, r3, r4, r5⟩, ⟨pp, gp, u1, u2, u3, u4, u5⟩, h5⟩ := h
  refine ⟨⟨⟨?_, ?_, ?_, ?_, ?_, ?_, ?_, ?_, ?_, ?_, ?_⟩, ?_, ?_, ?_, ⟨s, ?_, s2, ?_, ?_, ?_⟩, ⟨hd, ?_, q2, ?_⟩, ?_⟩, ?_, ⟨gg, dd, ?_, ?_, r3, r4, ?_⟩, ⟨pp, gp, ?_, ?_, u3, u4, ?_⟩, ?_⟩
  · rw [e0, g0]; exact a1
  · rw [e0, g 1 (by omega)]; exact a2
  · rw [e0, g 3 (by omega)]; exact a3
  · rw [e0, g 4 (by omega)]; exact a4
  · rw [e0, g 5 (by omega)]; exact a5
  · rw [e0, g 6 (by omega)]; exact a6
  · rw [e0, g 7 (by omega)]; exact a7
  · rw [e1, g 8 (by omega)]; exact a8
  · rw [e0, g 28 (by omega)]; exact a9
  · rw [e4, g 33 (by omega)]; exact a10
  · rw [e0, g 29 (by omega)]; exact a11
  · rw [e0]; exact b1
  · rw [e0]; exact b2
  · rw [e0]; exact b3
  · rw [e1]; exact s1
  · intro k hk
    rw [e2, e3, show c + 9 + 2 * k = c + (9 + 2 * k) by omega, show c + (9 + 2 * k) + 1 = c + (10 + 2 * k) by omega, g _ (by omega), g _ (by omega)]
    have := s3 k hk
    rw [show c + 9 + 2 * k = c + (9 + 2 * k) by omega, show c + (9 + 2 * k) + 1 = c + (10 + 2 * k) by omega] at this
    exact this
  · rw [e0, g 2 (by omega)]; exact s4
  · rw [e0]; exact s5
  · rw [e4]; exact q1
  · intro k hk
    rw [e5, show c + 34 + k = c + (34 + k) by omega, g _ (by omega)]
    have := q3 k hk
    rw [show c + 34 + k = c + (34 + k) by omega] at this
    exact this
  · rw [e0]; exact b4
  · unfold AWr; rw [e0, g 26 (by omega), g 27 (by omega)]; exact h2
  · rw [g 21 (by omega)]; exact r1
  · rw [g 24 (by omega)]; exact r2
  · rw [e6, g 22 (by omega), g 23 (by omega), g 25 (by omega)]; exact r5
  · rw [e0]; exact u1
  · rw [g 32 (by omega)]; exact u2
  · rw [e0, g 30 (by omega), g 31 (by omega)]; exact u5
  · rw [e0, e6]; exact h5
/-- a draw, taken modulo a window -/
theorem drn_ok {z i k w : Nat} (hz : z ≤ 9999) (hi : i < 6) (hk : k < 100000) (hw : 1 ≤ w) (hw2 : w ≤ 64) : ∃ v, v < 64 ∧ remF (drnF (nI z) (nI i) (nI k)) (nI w) = nI v := by
  have e1 : drnL (nI z) (nI i) (nI k) = lN (7919 * z + 6151 * i + 3571 * k + 1) := by
    unfold drnL
    rw [nI_l (by omega), nI_l (by omega), nI_l (by omega), show (7919 : Int64) = lN 7919 from rfl, show (6151 : Int64) = lN 6151 from rfl, show (3571 : Int64) = lN 3571 from rfl, lN_mul, lN_mul, lN_mul, lN_add, lN_add, lN_1]
  have hx : (7919 * z + 6151 * i + 3571 * k + 1) < 500000000 := by omega
  generalize 7919 * z + 6151 * i + 3571 * k + 1 = x at e1 hx
  have hxx : x * x < 2 ^ 63 := by
    have : x * x ≤ 500000000 * 500000000 := Nat.mul_le_mul (by omega) (by omega)
    exact Nat.lt_of_le_of_lt this (by decide)
  have e2 : drnF (nI z) (nI i) (nI k) = nI (x * x % 65521) := by
    unfold drnF
    rw [e1, lN_mul, show (65521 : Int64) = lN 65521 from rfl, pk_lRem hxx (by decide) (by decide), lN_i]
  have hlt : x * x % 65521 < 65521 := Nat.mod_lt _ (by decide)
  refine ⟨x * x % 65521 % w, Nat.lt_of_lt_of_le (Nat.mod_lt _ hw) hw2, ?_⟩
  unfold remF
  rw [e2, pk_rem (by omega) hw (by omega)]
