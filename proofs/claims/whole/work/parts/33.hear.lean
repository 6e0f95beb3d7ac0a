/-! what a station hears, on both sides -/
theorem SR.fr {μ μ' : Mem} {o : Nat} {f f' : Nat → Int32} {c D D' : Nat} (hm0 : ∀ k, k ≤ 11 → μ' o k = μ o k) (hmx : ∀ x, o + 1 ≤ x → x ≤ o + 5 → μ' x = μ x) (hf : ∀ k, k < 70 → (k ≤ 20 ∨ (26 ≤ k ∧ k ≤ 29) ∨ 33 ≤ k) → f' (c + k) = f (c + k)) (hD : D ≤ D') (h : SR μ o f c D) : SR μ' o f' c D' := by
  have e1 := hmx (o + 1) (by omega) (by omega)
  have e2 := hmx (o + 2) (by omega) (by omega)
  have e3 := hmx (o + 3) (by omega) (by omega)
  have e4 := hmx (o + 4) (by omega) (by omega)
  have e5 := hmx (o + 5) (by omega) (by omega)
  have g0 : f' c = f c := hf 0 (by omega) (by omega)
  obtain ⟨⟨a1, a2, a3, a4, a5, a6, a7, a8, a9, a10, a11⟩, ⟨w, w1, w2⟩, ⟨t, t1, t2⟩, ⟨kk, k1, k2⟩, ⟨s, s1, s2, s3, s4, s5⟩, ⟨hd, q1, q2, q3⟩, b4⟩ := h
  refine ⟨⟨?_, ?_, ?_, ?_, ?_, ?_, ?_, ?_, ?_, ?_, ?_⟩, ⟨w, ?_, w2⟩, ⟨t, ?_, t2⟩, ⟨kk, ?_, by omega⟩, ⟨s, ?_, s2, ?_, ?_, ?_⟩, ⟨hd, ?_, q2, ?_⟩, ?_⟩
  · rw [hm0 1 (by omega), g0]; exact a1
  · rw [hm0 2 (by omega), hf 1 (by omega) (by omega)]; exact a2
  · rw [hm0 4 (by omega), hf 3 (by omega) (by omega)]; exact a3
  · rw [hm0 5 (by omega), hf 4 (by omega) (by omega)]; exact a4
  · rw [hm0 6 (by omega), hf 5 (by omega) (by omega)]; exact a5
  · rw [hm0 7 (by omega), hf 6 (by omega) (by omega)]; exact a6
  · rw [hm0 8 (by omega), hf 7 (by omega) (by omega)]; exact a7
  · rw [e1, hf 8 (by omega) (by omega)]; exact a8
  · rw [hm0 11 (by omega), hf 28 (by omega) (by omega)]; exact a9
  · rw [e4, hf 33 (by omega) (by omega)]; exact a10
  · rw [hm0 10 (by omega), hf 29 (by omega) (by omega)]; exact a11
  · rw [hm0 1 (by omega)]; exact w1
  · rw [hm0 2 (by omega)]; exact t1
  · rw [hm0 8 (by omega)]; exact k1
  · rw [e1]; exact s1
  · intro k hk
    have := s3 k hk
    rw [e2, e3, show c + 9 + 2 * k = c + (9 + 2 * k) by omega, show c + (9 + 2 * k) + 1 = c + (10 + 2 * k) by omega, hf _ (by omega) (by omega), hf _ (by omega) (by omega)]
    rw [show c + 9 + 2 * k = c + (9 + 2 * k) by omega, show c + (9 + 2 * k) + 1 = c + (10 + 2 * k) by omega] at this
    exact this
  · rw [hm0 3 (by omega), hf 2 (by omega) (by omega)]; exact s4
  · rw [hm0 9 (by omega), hm0 10 (by omega), hm0 11 (by omega)]; exact s5
  · rw [e4]; exact q1
  · intro k hk
    have := q3 k hk
    rw [e5, show c + 34 + k = c + (34 + k) by omega, hf _ (by omega) (by omega)]
    rw [show c + 34 + k = c + (34 + k) by omega] at this
    exact this
  · rw [hm0 10 (by omega)]; exact b4
theorem AWr.fr {μ μ' : Mem} {o : Nat} {f f' : Nat → Int32} {c a : Nat} (h9 : μ' o 9 = μ o 9) (h10 : μ' o 10 = μ o 10) (h26 : f' (c + 26) = f (c + 26)) (h27 : f' (c + 27) = f (c + 27)) (h : AWr μ o f c a) : AWr μ' o f' c a := by
  unfold AWr at h ⊢; rw [h9, h10, h26, h27]; exact h
theorem OWr.fr {μ μ' : Mem} {o : Nat} {f f' : Nat → Int32} {c t : Nat} (h6 : μ' (o + 6) = μ (o + 6)) (hf : ∀ k, 21 ≤ k → k ≤ 25 → f' (c + k) = f (c + k)) (h : OWr μ o f c t) : OWr μ' o f' c t := by
  unfold OWr at h ⊢; rw [h6, hf 21 (by omega) (by omega), hf 22 (by omega) (by omega), hf 23 (by omega) (by omega), hf 24 (by omega) (by omega), hf 25 (by omega) (by omega)]; exact h
theorem PAr.fr {μ μ' : Mem} {o : Nat} {f f' : Nat → Int32} {c t : Nat} (hm : ∀ k, 12 ≤ k → k ≤ 14 → μ' o k = μ o k) (hf : ∀ k, 30 ≤ k → k ≤ 32 → f' (c + k) = f (c + k)) (h : PAr μ o f c t) : PAr μ' o f' c t := by
  unfold PAr at h ⊢; rw [hm 12 (by omega) (by omega), hm 13 (by omega) (by omega), hm 14 (by omega) (by omega), hf 30 (by omega) (by omega), hf 31 (by omega) (by omega), hf 32 (by omega) (by omega)]; exact h
/-- nothing owed, behind the sending: g, d at most this slot -/
def OW0 (μ : Mem) (o : Nat) (f : Nat → Int32) (c t : Nat) : Prop := ∃ g d, f (c + 21) = nI g ∧ f (c + 24) = nI d ∧ g ≤ t + 1 ∧ d ≤ t + 1 ∧ μ (o + 6) 0 = 0
theorem OW0.up {μ : Mem} {o : Nat} {f : Nat → Int32} {c t : Nat} (h : OW0 μ o f c t) : OWr μ o f c (t + 1) := by
  obtain ⟨g, d, h1, h2, h3, h4, h5⟩ := h
  exact ⟨g, d, h1, h2, by omega, by omega, Or.inl ⟨h5, h3, h4⟩⟩
theorem PAr.up {μ : Mem} {o : Nat} {f : Nat → Int32} {c t : Nat} (h : PAr μ o f c t) : PAr μ o f c (t + 1) := by
  obtain ⟨p, g, h1, h2, h3, h4, h5⟩ := h
  exact ⟨p, g, h1, h2, by omega, by omega, fun fr q hq => ⟨fun ⟨_, _, e⟩ => by omega, fun ⟨_, _, e⟩ => by omega⟩⟩
/-- behind the hearing: as it is, or the letter fails -/
def HR (μ : Mem) (o : Nat) (f : Nat → Int32) (c t D : Nat) : Prop := SR μ o f c D ∧ AWr μ o f c (t + 1) ∧ OWr μ o f c (t + 1) ∧ PAr μ o f c (t + 1)
theorem SR.size {μ : Mem} {o : Nat} {f : Nat → Int32} {c D : Nat} (h : SR μ o f c D) (h9 : ¬ μ o 9 = 0) : ∃ s, s < 6 ∧ μ (o + 1) 0 = nI (s + 1) := by
  obtain ⟨-, -, -, -, ⟨s, s1, s2, -, -, s5⟩, -⟩ := h
  cases s with
  | zero => exact absurd (s5 rfl).1 h9
  | succ s => exact ⟨s, by omega, s1⟩
theorem fin_rel {μ : Mem} {n i b D z s l mm rr t : Nat} {f : Nat → Int32} {L M R : Int32} (hi : i < 6) (hn : n + 1 < stA n i) (hz : μ n 5 = nI z) (hz2 : f (b + 428) = nI z) (hz3 : z ≤ 9999) (hD : D < 100000) (hL : L = nI l) (hl1 : 1 ≤ l) (hl2 : l ≤ 64) (hM : M = nI mm) (hm1 : 1 ≤ mm) (hm2 : mm ≤ 64) (hR : R = nI rr) (hr : rr ≤ 7)
    (hH : HR μ (stA n i) f (b + 70 * i) t D) (hsz : ¬ μ (stA n i) 9 = 0 → μ (stA n i + 1) 0 = nI (s + 1) ∧ s < 6) :
    RA (if ¬ μ (stA n i) 9 = 0 then dwF (flF μ (stA n i) s L M R) n i else μ) (stA n i) (if ¬ f (b + 70 * i + 26) ≤ 0 ∧ f (b + 70 * i + 27) = nI (t + 1) then falF f b i s L M R else f) (b + 70 * i) (t + 1) (D + 1) := by
  obtain ⟨hS, hA, hO, hP⟩ := hH
  by_cases h9 : μ (stA n i) 9 = 0
  · have h26 : f (b + 70 * i + 26) = 0 := by
      rcases hA with h | h | h
      · exact h.2
      · exact absurd (h.1.symm.trans h9) (by decide)
      · exact absurd (h.1.symm.trans h9) (by decide)
    rw [if_neg (fun q => q h9), if_neg (fun q => q.1 (by rw [h26]; decide))]
    exact ⟨hS.fr (fun _ _ => rfl) (fun _ _ _ => rfl) (fun _ _ _ => rfl) (by omega), Or.inl ⟨h9, h26⟩, hO, hP, fun q => absurd h9 q⟩
  · have hB : ¬ f (b + 70 * i + 26) ≤ 0 ∧ f (b + 70 * i + 27) = nI (t + 1) ∧ μ (stA n i) 10 = 0 := by
      rcases hA with h | h | h
      · exact absurd h.1 h9
      · exact ⟨by rw [h.2.1]; decide, h.2.2.1, h.2.2.2⟩
      · exact ⟨by rw [h.2.1]; decide, h.2.2.1, h.2.2.2⟩
    rw [if_pos h9, if_pos ⟨hB.1, hB.2.1⟩]
    obtain ⟨r1, r2, r3⟩ := fail_rel hi hn hz hz2 hz3 hD hL hl1 hl2 hM hm1 hm2 hR hr hS hB.2.2 (hsz h9).1 (hsz h9).2
    refine ⟨r1, Or.inl ⟨r2, r3⟩, hO.fr ?_ ?_, hP.fr ?_ ?_, fun q => absurd r2 q⟩
    · rw [dwF_ne (by omega), fl_x (by omega) (by omega) (by omega) (by omega)]
    · intro k k1 k2; exact fal_j (hsz h9).2 (by unfold offK; omega)
    · intro k k1 k2; rw [dwF_k (by omega) (by omega), fl_k (by omega)]
    · intro k k1 k2; exact fal_j (hsz h9).2 (by unfold offK; omega)
/-- a clash -/
theorem h_clash {μ : Mem} {o : Nat} {f : Nat → Int32} {c t D : Nat} (hS : SR μ o f c D) (hA : AWr μ o f c (t + 1)) (hO : OW0 μ o f c t) (hP : PAr μ o f c t) : HR (up2 μ o 5 (μ o 5 + 1)) o (upd f (c + 4) (f (c + 4) + 1)) c t D := by
  refine ⟨?_, hA.fr (up2_k (by decide)) (up2_k (by decide)) (upd_ne (by omega)) (upd_ne (by omega)), (hO.up).fr (up2_ne (by omega)) (fun k _ _ => upd_ne (by omega)), (hP.up).fr (fun k _ _ => up2_k (by omega)) (fun k _ _ => upd_ne (by omega))⟩
  obtain ⟨⟨a1, a2, a3, a4, a5, a6, a7, a8, a9, a10, a11⟩, w, tt, kk, ⟨s, s1, s2, s3, s4, s5⟩, ⟨hd, q1, q2, q3⟩, b4⟩ := hS
  have co : ∀ k, k ≠ 5 → up2 μ o 5 (μ o 5 + 1) o k = μ o k := fun k h => up2_k h
  have cx : ∀ x, x ≠ o → up2 μ o 5 (μ o 5 + 1) x = μ x := fun x h => up2_ne h
  have go : ∀ j, j ≠ c + 4 → upd f (c + 4) (f (c + 4) + 1) j = f j := fun j h => upd_ne h
  refine ⟨⟨?_, ?_, ?_, ?_, ?_, ?_, ?_, ?_, ?_, ?_, ?_⟩, ?_, ?_, ?_, ⟨s, ?_, s2, ?_, ?_, ?_⟩, ⟨hd, ?_, q2, ?_⟩, ?_⟩
  · rw [co _ (by decide), go _ (by omega)]; exact a1
  · rw [co _ (by decide), go _ (by omega)]; exact a2
  · rw [co _ (by decide), go _ (by omega)]; exact a3
  · rw [up2_at, upd_at, a4]
  · rw [co _ (by decide), go _ (by omega)]; exact a5
  · rw [co _ (by decide), go _ (by omega)]; exact a6
  · rw [co _ (by decide), go _ (by omega)]; exact a7
  · rw [cx _ (by omega), go _ (by omega)]; exact a8
  · rw [co _ (by decide), go _ (by omega)]; exact a9
  · rw [cx _ (by omega), go _ (by omega)]; exact a10
  · rw [co _ (by decide), go _ (by omega)]; exact a11
  · rw [co _ (by decide)]; exact w
  · rw [co _ (by decide)]; exact tt
  · rw [co _ (by decide)]; exact kk
  · rw [cx _ (by omega)]; exact s1
  · intro k hk; rw [cx _ (by omega), cx _ (by omega), go _ (by omega), go _ (by omega)]; exact s3 k hk
  · rw [co _ (by decide), go _ (by omega)]; exact s4
  · rw [co _ (by decide), co _ (by decide), co _ (by decide)]; exact s5
  · rw [cx _ (by omega)]; exact q1
  · intro k hk; rw [cx _ (by omega), go _ (by omega)]; exact q3 k hk
  · rw [co _ (by decide)]; exact b4
/-- an ask to itself -/
theorem h_ask {μ : Mem} {i b : Nat} {o j : Nat} {f : Nat → Int32} {t D : Nat} {wd : Int32} (hS : SR μ o f (b + 70 * i) D) (hA : AWr μ o f (b + 70 * i) (t + 1)) (hO : OW0 μ o f (b + 70 * i) t) (hP : PAr μ o f (b + 70 * i) t) :
    HR (if ¬ nI (t + 1) ≤ μ o 4 then putF μ (o + 6) 2 (nI j) wd 0 else μ) o (tk1F f b i j (nI (t + 1)) wd) (b + 70 * i) t D := by
  unfold tk1F
  rw [← hS.1.2.2.1]
  by_cases h : nI (t + 1) ≤ μ o 4
  · rw [if_neg (fun q => q h), if_pos h]
    exact ⟨hS, hA, hO.up, hP.up⟩
  · rw [if_pos h, if_neg h]
    refine ⟨hS.fr (fun k _ => by rw [putF_ne (by omega)]) (fun x _ _ => putF_ne (by omega)) (fun k h1 h2 => by rw [upd_ne (by omega), upd_ne (by omega), upd_ne (by omega)]) (Nat.le_refl D), hA.fr (by rw [putF_ne (by omega)]) (by rw [putF_ne (by omega)]) (by rw [upd_ne (by omega), upd_ne (by omega), upd_ne (by omega)]) (by rw [upd_ne (by omega), upd_ne (by omega), upd_ne (by omega)]), ?_, (hP.up).fr (fun k _ _ => by rw [putF_ne (by omega)]) (fun k _ _ => by rw [upd_ne (by omega), upd_ne (by omega), upd_ne (by omega)])⟩
    obtain ⟨g, d, h1, h2, h3, h4, h5⟩ := hO
    refine ⟨t + 2, d, ?_, ?_, by omega, by omega, Or.inr (Or.inl ⟨?_, rfl, ?_, ?_⟩)⟩
    · rw [upd_ne (by omega), upd_ne (by omega), upd_at, nI_1]
    · rw [upd_ne (by omega), upd_ne (by omega), upd_ne (by omega)]; exact h2
    · simp [putF, up2_ap]
    · rw [upd_ne (by omega), upd_at]; simp [putF, up2_ap]
    · rw [upd_at]; simp [putF, up2_ap]
/-- a part to itself -/
theorem h_part {μ : Mem} {i b : Nat} {o j g : Nat} {f : Nat → Int32} {t D : Nat} {wd p : Int32} (ht : t < 1000000) (hg : g < o ∨ o + 6 < g) (hwd : μ g 2 = wd) (hp : μ g 3 = p) (hS : SR μ o f (b + 70 * i) D) (hA : AWr μ o f (b + 70 * i) (t + 1)) (hO : OW0 μ o f (b + 70 * i) t) (hP : PAr μ o f (b + 70 * i) t) :
    HR (tpF μ o (nI (t + 1)) (nI j) g) o (tk3F f b i j (nI (t + 1)) wd p) (b + 70 * i) t D := by
  obtain ⟨pp, gg, p1, p2, p3, p4, p5⟩ := hP
  have es : nI (t + 1) - 1 = nI t := nI_pred t
  have hcond : (p = 0 ∨ (μ o 12 = nI j ∧ μ o 13 = p ∧ μ o 14 = nI (t + 1) - 1)) ↔ (p = 0 ∨ (f (b + 70 * i + 30) = nI j ∧ f (b + 70 * i + 31) = p ∧ f (b + 70 * i + 32) = nI (t + 1) - 1)) := by
    rw [es, p1, p2, nI_eq (by omega) (by omega), nI_eq (by omega) (by omega)]
    by_cases h0 : p = 0
    · simp [h0]
    · simp only [h0, false_or]; exact p5 (nI j) p h0
  unfold tpF tk3F
  rw [hp, hwd]
  by_cases hc : p = 0 ∨ (f (b + 70 * i + 30) = nI j ∧ f (b + 70 * i + 31) = p ∧ f (b + 70 * i + 32) = nI (t + 1) - 1)
  · rw [if_pos (hcond.mpr hc), if_pos hc]
    by_cases hl : p + 1 = wd
    · rw [if_pos hl, if_pos hl]
      refine ⟨hS.fr (fun k _ => ?_) (fun x _ _ => ?_) (fun k h1 h2 => ?_) (Nat.le_refl D), hA.fr ?_ ?_ ?_ ?_, ?_, ?_⟩
      · rw [putF_ne (by omega), up2_k (by omega), up2_k (by omega), up2_k (by omega)]
      · rw [putF_ne (by omega), up2_ne (by omega), up2_ne (by omega), up2_ne (by omega)]
      · rw [upd_ne (by omega), upd_ne (by omega), upd_ne (by omega), upd_ne (by omega), upd_ne (by omega)]
      · rw [putF_ne (by omega), up2_k (by omega), up2_k (by omega), up2_k (by omega)]
      · rw [putF_ne (by omega), up2_k (by omega), up2_k (by omega), up2_k (by omega)]
      · rw [upd_ne (by omega), upd_ne (by omega), upd_ne (by omega), upd_ne (by omega), upd_ne (by omega)]
      · rw [upd_ne (by omega), upd_ne (by omega), upd_ne (by omega), upd_ne (by omega), upd_ne (by omega)]
      · obtain ⟨g', d, h1, h2, h3, h4, h5⟩ := hO
        refine ⟨g', t + 2, ?_, ?_, by omega, by omega, Or.inr (Or.inr ⟨?_, h3, rfl, ?_⟩)⟩
        · rw [upd_ne (by omega), upd_ne (by omega), upd_ne (by omega), upd_ne (by omega), upd_ne (by omega)]; exact h1
        · rw [upd_ne (by omega), upd_at, nI_1]
        · simp [putF, up2_ap]
        · rw [upd_at]; simp [putF, up2_ap]
      · refine ⟨t + 1, t + 1, ?_, ?_, Nat.le_refl _, Nat.le_refl _, fun fr q hq => ?_⟩
        · rw [putF_ne (by omega), up2_at]
        · rw [upd_ne (by omega), upd_ne (by omega), upd_at]
        · rw [putF_ne (by omega), up2_k (by decide), up2_k (by decide), up2_at, up2_k (by decide), up2_at, upd_ne (by omega), upd_ne (by omega), upd_ne (by omega), upd_at, upd_ne (by omega), upd_ne (by omega), upd_ne (by omega), upd_ne (by omega), upd_at]
    · rw [if_neg hl, if_neg hl]
      refine ⟨hS.fr (fun k _ => ?_) (fun x _ _ => ?_) (fun k h1 h2 => ?_) (Nat.le_refl D), hA.fr ?_ ?_ ?_ ?_, (hO.up).fr ?_ ?_, ?_⟩
      · rw [up2_k (by omega), up2_k (by omega), up2_k (by omega)]
      · rw [up2_ne (by omega), up2_ne (by omega), up2_ne (by omega)]
      · rw [upd_ne (by omega), upd_ne (by omega), upd_ne (by omega)]
      · rw [up2_k (by omega), up2_k (by omega), up2_k (by omega)]
      · rw [up2_k (by omega), up2_k (by omega), up2_k (by omega)]
      · rw [upd_ne (by omega), upd_ne (by omega), upd_ne (by omega)]
      · rw [upd_ne (by omega), upd_ne (by omega), upd_ne (by omega)]
      · rw [up2_ne (by omega), up2_ne (by omega), up2_ne (by omega)]
      · intro k k1 k2; rw [upd_ne (by omega), upd_ne (by omega), upd_ne (by omega)]
      · refine ⟨t + 1, t + 1, ?_, ?_, Nat.le_refl _, Nat.le_refl _, fun fr q hq => ?_⟩
        · rw [up2_at]
        · rw [upd_at]
        · rw [up2_k (by decide), up2_k (by decide), up2_at, up2_k (by decide), up2_at, upd_ne (by omega), upd_at, upd_ne (by omega), upd_ne (by omega), upd_at]
  · rw [if_neg (fun q => hc (hcond.mp q)), if_neg hc]
    refine ⟨hS.fr (fun _ _ => rfl) (fun _ _ _ => rfl) (fun k h1 h2 => ?_) (Nat.le_refl D), hA.fr rfl rfl ?_ ?_, (hO.up).fr rfl ?_, ?_⟩
    · rw [upd_ne (by omega), upd_ne (by omega), upd_ne (by omega)]
    · rw [upd_ne (by omega), upd_ne (by omega), upd_ne (by omega)]
    · rw [upd_ne (by omega), upd_ne (by omega), upd_ne (by omega)]
    · intro k k1 k2; rw [upd_ne (by omega), upd_ne (by omega), upd_ne (by omega)]
    · refine ⟨pp, t + 1, p1, ?_, by omega, Nat.le_refl _, fun fr q hq => ⟨fun ⟨_, _, e⟩ => by omega, fun ⟨_, e, _⟩ => ?_⟩⟩
      · rw [upd_at]
      · rw [upd_ne (by omega), upd_ne (by omega), upd_at] at e
        exact absurd e.symm hq
