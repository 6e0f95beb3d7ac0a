/-! the relation goes along with copies, on either side -/
theorem RA.mv {μ μ' : Mem} {o o' : Nat} {f f' : Nat → Int32} {c c' t D : Nat} (hS : SCP μ' o' μ o) (hf : ∀ k, k < 70 → f' (c' + k) = f (c + k)) (h : RA μ o f c t D) : RA μ' o' f' c' t D := by
  obtain ⟨m0, m1, m2, m3, m4, m5, m6⟩ := hS
  have g0 : f' c' = f c := hf 0 (by omega)
  obtain ⟨⟨⟨a1, a2, a3, a4, a5, a6, a7, a8, a9, a10, a11⟩, ⟨w, w1, w2⟩, ⟨tt, t1, t2⟩, ⟨kk, k1, k2⟩, ⟨s, s1, s2, s3, s4, s5⟩, ⟨hd, q1, q2, q3⟩, b4⟩, h2, ⟨gg, dd, r1, r2, r3, r4, r5⟩, ⟨pp, gp, u1, u2, u3, u4, u5⟩, h5⟩ := h
  refine ⟨⟨⟨?_, ?_, ?_, ?_, ?_, ?_, ?_, ?_, ?_, ?_, ?_⟩, ⟨w, ?_, w2⟩, ⟨tt, ?_, t2⟩, ⟨kk, ?_, k2⟩, ⟨s, ?_, s2, ?_, ?_, ?_⟩, ⟨hd, ?_, q2, ?_⟩, ?_⟩, ?_, ⟨gg, dd, ?_, ?_, r3, r4, ?_⟩, ⟨pp, gp, ?_, ?_, u3, u4, ?_⟩, ?_⟩
  · rw [m0 _ (by omega), g0]; exact a1
  · rw [m0 _ (by omega), hf _ (by omega)]; exact a2
  · rw [m0 _ (by omega), hf _ (by omega)]; exact a3
  · rw [m0 _ (by omega), hf _ (by omega)]; exact a4
  · rw [m0 _ (by omega), hf _ (by omega)]; exact a5
  · rw [m0 _ (by omega), hf _ (by omega)]; exact a6
  · rw [m0 _ (by omega), hf _ (by omega)]; exact a7
  · rw [m1, hf _ (by omega)]; exact a8
  · rw [m0 _ (by omega), hf _ (by omega)]; exact a9
  · rw [m4, hf _ (by omega)]; exact a10
  · rw [m0 _ (by omega), hf _ (by omega)]; exact a11
  · rw [m0 _ (by omega)]; exact w1
  · rw [m0 _ (by omega)]; exact t1
  · rw [m0 _ (by omega)]; exact k1
  · rw [m1]; exact s1
  · intro k hk
    have := s3 k hk
    rw [m2 _ (by omega), m3 _ (by omega), show c' + 9 + 2 * k = c' + (9 + 2 * k) by omega, show c' + (9 + 2 * k) + 1 = c' + (10 + 2 * k) by omega, hf _ (by omega), hf _ (by omega)]
    rw [show c + 9 + 2 * k = c + (9 + 2 * k) by omega, show c + (9 + 2 * k) + 1 = c + (10 + 2 * k) by omega] at this
    exact this
  · rw [m0 _ (by omega), hf _ (by omega)]; exact s4
  · rw [m0 _ (by omega), m0 _ (by omega), m0 _ (by omega)]; exact s5
  · rw [m4]; exact q1
  · intro k hk
    have := q3 k hk
    rw [m5 _ (by omega), show c' + 34 + k = c' + (34 + k) by omega, hf _ (by omega)]
    rw [show c + 34 + k = c + (34 + k) by omega] at this
    exact this
  · rw [m0 _ (by omega)]; exact b4
  · unfold AWr at h2 ⊢; rw [m0 _ (by omega), m0 _ (by omega), hf _ (by omega), hf _ (by omega)]; exact h2
  · rw [hf _ (by omega)]; exact r1
  · rw [hf _ (by omega)]; exact r2
  · rw [m6 _ (by omega), m6 _ (by omega), m6 _ (by omega), hf _ (by omega), hf _ (by omega), hf _ (by omega)]; exact r5
  · rw [m0 _ (by omega)]; exact u1
  · rw [hf _ (by omega)]; exact u2
  · rw [m0 _ (by omega), m0 _ (by omega), hf _ (by omega), hf _ (by omega)]; exact u5
  · rw [m0 _ (by omega), m6 _ (by omega)]; exact h5
theorem RA.mono {μ : Mem} {o : Nat} {f : Nat → Int32} {c t D D' : Nat} (hD : D ≤ D') (h : RA μ o f c t D) : RA μ o f c t D' :=
  ⟨h.1.fr (fun _ _ => rfl) (fun _ _ _ => rfl) (fun _ _ _ => rfl) hD, h.2⟩
theorem NR.mv {μ μ' ν ν' : Mem} {n n' b b' N t D D' : Nat} (hC : NCP μ' n' μ n) (h0 : ∀ k, 2 ≤ k → k ≤ 6 → ν' 0 k = ν 0 k) (hf : ∀ j, j < 440 → ν' 2 (b' + j) = ν 2 (b + j)) (hD : D ≤ D') (h : NR μ n ν b N t D) : NR μ' n' ν' b' N t D' := by
  obtain ⟨m0, m1, m2⟩ := hC
  obtain ⟨⟨c0, c0', hN2, hN, ⟨l, cl, cl', cl1⟩, ⟨m, cm, cm', cm1⟩, c3, ⟨r, cr, cr', cr1⟩⟩, ⟨z, z1, z2, z3⟩, h6, h6', h7, hT, ⟨hm, hH, hsym⟩, hR⟩ := h
  refine ⟨⟨?_, ?_, hN2, hN, ⟨l, ?_, ?_, cl1⟩, ⟨m, ?_, ?_, cm1⟩, ?_, ⟨r, ?_, ?_, cr1⟩⟩, ⟨z, ?_, ?_, z3⟩, ?_, ?_, ?_, ?_, ⟨hm, fun i hi => ⟨(hH i hi).1, ?_, ?_⟩, hsym⟩, fun i hi => ?_⟩
  · rw [m0 _ (by omega)]; exact c0
  · rw [h0 _ (by omega) (by omega)]; exact c0'
  · rw [m0 _ (by omega)]; exact cl
  · rw [h0 _ (by omega) (by omega)]; exact cl'
  · rw [m0 _ (by omega)]; exact cm
  · rw [h0 _ (by omega) (by omega)]; exact cm'
  · rw [m0 _ (by omega), h0 _ (by omega) (by omega)]; exact c3
  · rw [m0 _ (by omega)]; exact cr
  · rw [h0 _ (by omega) (by omega)]; exact cr'
  · rw [m0 _ (by omega)]; exact z1
  · rw [hf _ (by omega)]; exact z2
  · rw [m0 _ (by omega)]; exact h6
  · rw [hf _ (by omega)]; exact h6'
  · rw [m0 _ (by omega), hf _ (by omega)]; exact h7
  · intro k k1 k2
    rw [m1 _ (by omega), show b' + 429 + k = b' + (429 + k) by omega, hf _ (by omega)]
    have := hT k k1 k2
    rw [show b + 429 + k = b + (429 + k) by omega] at this
    exact this
  · rw [(m2 i (by omega)).1 _ (by omega)]; exact (hH i hi).2.1
  · rw [show b' + 420 + i = b' + (420 + i) by omega, hf _ (by omega)]
    have := (hH i hi).2.2
    rw [show b + 420 + i = b + (420 + i) by omega] at this
    exact this
  · refine ((hR i hi).mono hD).mv (m2 i (by omega)) (fun k hk => ?_)
    rw [show b' + 70 * i + k = b' + (70 * i + k) by omega, hf _ (by omega)]
    congr 1; omega
theorem SCP.rf (μ : Mem) (o : Nat) : SCP μ o μ o := ⟨fun _ _ => rfl, rfl, fun _ _ => rfl, fun _ _ => rfl, rfl, fun _ _ => rfl, fun _ _ => rfl⟩
theorem NCP.rf (μ : Mem) (n : Nat) : NCP μ n μ n := ⟨fun _ _ => rfl, fun _ _ => rfl, fun _ _ => SCP.rf μ _⟩
theorem NCP.eq {μ u : Mem} {n : Nat} (h : ∀ x, n ≤ x → x ≤ n + 50 → u x = μ x) : NCP u n μ n := by
  refine ⟨fun k _ => by rw [h n (by omega) (by omega)], fun k _ => by rw [h (n + 1) (by omega) (by omega)], fun i hi => ?_⟩
  exact (SCP.rf μ _).fr (fun x h1 h2 => h x (by unfold stA at h1; omega) (by unfold stA at h2; omega))
/-! how many pairs -/
def inC (T : Nat → Nat → Bool) (i : Nat) : Nat → Nat
  | 0 => 0
  | j + 1 => inC T i j + (if i < j ∧ T i j = true then 1 else 0)
def ouC (T : Nat → Nat → Bool) (N : Nat) : Nat → Nat
  | 0 => 0
  | i + 1 => ouC T N i + inC T i N
def inR (T : Nat → Nat → Bool) (i : Nat) : Nat → Nat
  | 0 => 0
  | j + 1 => inR T i j + (if T i j = true then 1 else 0)
def ouR (T : Nat → Nat → Bool) : Nat → Nat
  | 0 => 0
  | i + 1 => ouR T i + inR T i i
theorem inC_le {T : Nat → Nat → Bool} {i : Nat} : ∀ j, j ≤ i + 1 → inC T i j = 0
  | 0, _ => rfl
  | j + 1, h => by
    show inC T i j + _ = 0
    rw [inC_le j (by omega), if_neg (by omega)]
theorem inC_bd {T : Nat → Nat → Bool} {i : Nat} : ∀ j, inC T i j ≤ j
  | 0 => Nat.le_refl 0
  | j + 1 => by
    have := inC_bd (T := T) (i := i) j
    show inC T i j + _ ≤ j + 1
    split <;> omega
theorem inR_bd {T : Nat → Nat → Bool} {i : Nat} : ∀ j, inR T i j ≤ j
  | 0 => Nat.le_refl 0
  | j + 1 => by
    have := inR_bd (T := T) (i := i) j
    show inR T i j + _ ≤ j + 1
    split <;> omega
theorem pairs_eq {T : Nat → Nat → Bool} {N : Nat} (hN : N ≤ 6) (hs : ∀ i j, i < N → j < N → T i j = T j i) : ouC T N N = ouR T N := by
  match N, hN with
  | 0, _ => rfl
  | 1, _ => simp [ouC, ouR, inC, inR]
  | 2, _ => simp [ouC, ouR, inC, inR, hs 1 0 (by omega) (by omega)]
  | 3, _ => simp [ouC, ouR, inC, inR, hs 1 0 (by omega) (by omega), hs 2 0 (by omega) (by omega), hs 2 1 (by omega) (by omega)]; omega
  | 4, _ => simp [ouC, ouR, inC, inR, hs 1 0 (by omega) (by omega), hs 2 0 (by omega) (by omega), hs 2 1 (by omega) (by omega), hs 3 0 (by omega) (by omega), hs 3 1 (by omega) (by omega), hs 3 2 (by omega) (by omega)]; omega
  | 5, _ => simp [ouC, ouR, inC, inR, hs 1 0 (by omega) (by omega), hs 2 0 (by omega) (by omega), hs 2 1 (by omega) (by omega), hs 3 0 (by omega) (by omega), hs 3 1 (by omega) (by omega), hs 3 2 (by omega) (by omega), hs 4 0 (by omega) (by omega), hs 4 1 (by omega) (by omega), hs 4 2 (by omega) (by omega), hs 4 3 (by omega) (by omega)]; omega
  | 6, _ => simp [ouC, ouR, inC, inR, hs 1 0 (by omega) (by omega), hs 2 0 (by omega) (by omega), hs 2 1 (by omega) (by omega), hs 3 0 (by omega) (by omega), hs 3 1 (by omega) (by omega), hs 3 2 (by omega) (by omega), hs 4 0 (by omega) (by omega), hs 4 1 (by omega) (by omega), hs 4 2 (by omega) (by omega), hs 4 3 (by omega) (by omega), hs 5 0 (by omega) (by omega), hs 5 1 (by omega) (by omega), hs 5 2 (by omega) (by omega), hs 5 3 (by omega) (by omega), hs 5 4 (by omega) (by omega)]; omega
  | N + 7, h => omega
