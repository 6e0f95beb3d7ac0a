/-! what is overheard; a grant that is awaited -/
theorem up2_row {μ : Mem} {q k : Nat} {v : Int32} : up2 μ q k v q = upd (μ q) k v := by simp [up2]
theorem mem_row {μ : Mem} {o h : Nat} {x y z w : Int32} : memF μ o h x y z w (o + 1) = upd (upd (upd (upd (μ (o + 1)) (h * 4) x) (h * 4 + 1) y) (h * 4 + 2) z) (h * 4 + 3) w := by
  unfold memF; rw [up2_ne (by omega), up2_row, up2_row, up2_row, up2_row]
theorem mem_0 {μ : Mem} {o h : Nat} {x y z w : Int32} : memF μ o h x y z w o 0 = nI (h + 1) := by unfold memF; rw [up2_at]
theorem mem_put {F G : Nat → Int32} {b i h : Nat} {x y z w : Int32} (hF : ∀ k, k < 4 * h → F k = G (b + 70 * i + 34 + k)) : ∀ k, k < 4 * (h + 1) → upd (upd (upd (upd F (h * 4) x) (h * 4 + 1) y) (h * 4 + 2) z) (h * 4 + 3) w k = oh1F G b i h x y z w (b + 70 * i + 34 + k) := by
  intro k hk
  unfold oh1F
  rw [upd_ne (k := b + 70 * i + 33) (by omega)]
  by_cases e3 : k = h * 4 + 3
  · subst e3; rw [upd_at, show b + 70 * i + 34 + (h * 4 + 3) = b + 70 * i + 33 + 1 + 4 * h + 3 by omega, upd_at]
  rw [upd_ne e3, upd_ne (k := b + 70 * i + 33 + 1 + 4 * h + 3) (by omega)]
  by_cases e2 : k = h * 4 + 2
  · subst e2; rw [upd_at, show b + 70 * i + 34 + (h * 4 + 2) = b + 70 * i + 33 + 1 + 4 * h + 2 by omega, upd_at]
  rw [upd_ne e2, upd_ne (k := b + 70 * i + 33 + 1 + 4 * h + 2) (by omega)]
  by_cases e1 : k = h * 4 + 1
  · subst e1; rw [upd_at, show b + 70 * i + 34 + (h * 4 + 1) = b + 70 * i + 33 + 1 + 4 * h + 1 by omega, upd_at]
  rw [upd_ne e1, upd_ne (k := b + 70 * i + 33 + 1 + 4 * h + 1) (by omega)]
  by_cases e0 : k = h * 4
  · subst e0; rw [upd_at, show b + 70 * i + 34 + (h * 4) = b + 70 * i + 33 + 1 + 4 * h by omega, upd_at]
  rw [upd_ne e0, upd_ne (k := b + 70 * i + 33 + 1 + 4 * h) (by omega)]
  exact hF k (by omega)
theorem stl_eq (a s : Int32) : (if a < s then s else a) = stlF a s := by
  unfold stlF
  by_cases h : s ≤ a
  · rw [if_pos h, if_neg (Int32.not_lt.mpr h)]
  · rw [if_neg h, if_pos (Int32.not_le.mp h)]
theorem h_over {μ : Mem} {i b : Nat} {o j g h : Nat} {f : Nat → Int32} {t D : Nat} {sl w wh wd p : Int32} (hh : μ (o + 4) 0 = nI h) (hh6 : h ≤ 6) (hw : μ g 0 = w) (hwh : μ g 1 = wh) (hmor : morF (μ g 0) (μ g 2) (μ g 3) = morF w wd p) (hS : SR μ o f (b + 70 * i) D) (hA : AWr μ o f (b + 70 * i) (t + 1)) (hO : OW0 μ o f (b + 70 * i) t) (hP : PAr μ o f (b + 70 * i) t) :
    HR (ovhF μ o h sl (nI j) g) o (ohsF f b i j h sl w wh wd p) (b + 70 * i) t D := by
  have kp : ∀ k, k < 33 → k ≠ 3 → ohsF f b i j h sl w wh wd p (b + 70 * i + k) = f (b + 70 * i + k) := fun k h1 h2 => ohs_keep h1 h2 hh6
  have co : ∀ k, k ≠ 4 → ovhF μ o h sl (nI j) g o k = μ o k := fun k e => ovhF_k e
  have cx : ∀ x, x ≠ o → x ≠ o + 4 → x ≠ o + 5 → ovhF μ o h sl (nI j) g x = μ x := fun x e e4 e5 => ovhF_ne e e4 e5
  refine ⟨?_, hA.fr (co _ (by decide)) (co _ (by decide)) (kp _ (by omega) (by omega)) (kp _ (by omega) (by omega)), (hO.up).fr (cx _ (by omega) (by omega) (by omega)) (fun k k1 k2 => kp _ (by omega) (by omega)), (hP.up).fr (fun k k1 k2 => co _ (by omega)) (fun k k1 k2 => kp _ (by omega) (by omega))⟩
  obtain ⟨⟨a1, a2, a3, a4, a5, a6, a7, a8, a9, a10, a11⟩, ww, tt, kk, ⟨s, s1, s2, s3, s4, s5⟩, ⟨hd, q1, q2, q3⟩, b4⟩ := hS
  have ehd : hd = h := (nI_eq (by omega) (by omega)).mp (q1.symm.trans hh)
  subst ehd
  -- the two rows behind it, and their lengths
  have key : ∃ h', ovhF μ o hd sl (nI j) g (o + 4) 0 = nI h' ∧ ohsF f b i j hd sl w wh wd p (b + 70 * i + 33) = nI h' ∧ h' ≤ 6 ∧ ∀ k, k < 4 * h' → ovhF μ o hd sl (nI j) g (o + 5) k = ohsF f b i j hd sl w wh wd p (b + 70 * i + 34 + k) := by
    unfold ovhF mAdd ohsF
    rw [up2_ne (show o + 4 ≠ o by omega), up2_ne (show o + 5 ≠ o by omega), hw, hwh]
    by_cases e6 : hd = 6
    · subst e6
      rw [if_pos rfl, if_pos rfl]
      refine ⟨6, ?_, ?_, Nat.le_refl 6, ?_⟩
      · unfold mem6F; rw [mem_0]
      · unfold oh1F; rw [upd_at]
      · unfold mem6F
        rw [show o + 5 = o + 4 + 1 from rfl, mem_row, upA_at]
        refine mem_put (h := 5) (fun k hk => ?_)
        rw [pk_cpy_in (by omega) (by omega)]
        unfold sh4F
        rw [if_pos (by omega), upd_ne (by omega)]
        have := q3 (k + 4) (by omega)
        rw [show b + 70 * i + 34 + (k + 4) = b + 70 * i + 34 + k + 4 by omega] at this
        rw [← this]
        congr 1; omega
    · rw [if_neg e6, if_neg e6]
      refine ⟨hd + 1, ?_, ?_, by omega, ?_⟩
      · rw [mem_0]
      · unfold oh1F; rw [upd_at]
      · rw [show o + 5 = o + 4 + 1 from rfl, mem_row]
        refine mem_put (fun k hk => ?_)
        rw [upd_ne (by omega)]
        exact q3 k hk
  have e3 : ovhF μ o hd sl (nI j) g o 4 = ohsF f b i j hd sl w wh wd p (b + 70 * i + 3) := by
    have h1 : ohsF f b i j hd sl w wh wd p (b + 70 * i + 3) = stlF (f (b + 70 * i + 3)) (sl + morF w wd p) := by
      unfold ohsF oh1F sh4F
      split
      · rw [upd_ne (by omega), upd_ne (by omega), upd_ne (by omega), upd_ne (by omega), upd_ne (by omega), if_neg (by omega), upd_at]
      · rw [upd_ne (by omega), upd_ne (by omega), upd_ne (by omega), upd_ne (by omega), upd_ne (by omega), upd_at]
    rw [h1, ← a3, ← hmor]
    unfold ovhF
    rw [up2_at, stl_eq]
  obtain ⟨h', k1, k2, k3, k4⟩ := key
  refine ⟨⟨?_, ?_, e3, ?_, ?_, ?_, ?_, ?_, ?_, ?_, ?_⟩, ?_, ?_, ?_, ⟨s, ?_, s2, ?_, ?_, ?_⟩, ⟨h', k1, k3, k4⟩, ?_⟩
  · have := kp 0 (by omega) (by omega); rw [Nat.add_zero] at this; rw [co _ (by decide), this]; exact a1
  · rw [co _ (by decide), kp _ (by omega) (by omega)]; exact a2
  · rw [co _ (by decide), kp _ (by omega) (by omega)]; exact a4
  · rw [co _ (by decide), kp _ (by omega) (by omega)]; exact a5
  · rw [co _ (by decide), kp _ (by omega) (by omega)]; exact a6
  · rw [co _ (by decide), kp _ (by omega) (by omega)]; exact a7
  · rw [cx _ (by omega) (by omega) (by omega), kp _ (by omega) (by omega)]; exact a8
  · rw [co _ (by decide), kp _ (by omega) (by omega)]; exact a9
  · rw [k1, k2]
  · rw [co _ (by decide), kp _ (by omega) (by omega)]; exact a11
  · rw [co _ (by decide)]; exact ww
  · rw [co _ (by decide)]; exact tt
  · rw [co _ (by decide)]; exact kk
  · rw [cx _ (by omega) (by omega) (by omega)]; exact s1
  · intro k hk
    have e1 := kp (9 + 2 * k) (by omega) (by omega)
    have e2 := kp (10 + 2 * k) (by omega) (by omega)
    rw [show b + 70 * i + (9 + 2 * k) = b + 70 * i + 9 + 2 * k by omega] at e1
    rw [show b + 70 * i + (10 + 2 * k) = b + 70 * i + 9 + 2 * k + 1 by omega] at e2
    rw [cx _ (by omega) (by omega) (by omega), cx _ (by omega) (by omega) (by omega), e1, e2]
    exact s3 k hk
  · rw [co _ (by decide), kp _ (by omega) (by omega)]; exact s4
  · rw [co _ (by decide), co _ (by decide), co _ (by decide)]; exact s5
  · rw [co _ (by decide)]; exact b4
/-- a grant that is awaited -/
theorem h_grant {μ : Mem} {i b : Nat} {o : Nat} {f : Nat → Int32} {t D : Nat} (h9 : μ o 9 = 2) (hS : SR μ o f (b + 70 * i) D) (hO : OW0 μ o f (b + 70 * i) t) (hP : PAr μ o f (b + 70 * i) t) :
    RA (up2 (up2 μ o 9 0) o 10 1) o (upd (upd f (b + 70 * i + 26) 0) (b + 70 * i + 29) 1) (b + 70 * i) (t + 1) (D + 1) := by
  have n9 : ¬ μ o 9 = 0 := by rw [h9]; decide
  obtain ⟨s0, hs0, hs1⟩ := hS.size n9
  have co : ∀ k, k ≠ 9 → k ≠ 10 → up2 (up2 μ o 9 0) o 10 1 o k = μ o k := fun k e1 e2 => by rw [up2_k e2, up2_k e1]
  have cx : ∀ x, x ≠ o → up2 (up2 μ o 9 0) o 10 1 x = μ x := fun x e => by rw [up2_ne e, up2_ne e]
  have go : ∀ j, j ≠ b + 70 * i + 26 → j ≠ b + 70 * i + 29 → upd (upd f (b + 70 * i + 26) 0) (b + 70 * i + 29) 1 j = f j := fun j e1 e2 => by rw [upd_ne e2, upd_ne e1]
  refine ⟨?_, Or.inl ⟨?_, ?_⟩, (hO.up).fr (cx _ (by omega)) (fun k _ _ => go _ (by omega) (by omega)), (hP.up).fr (fun k _ _ => co _ (by omega) (by omega)) (fun k _ _ => go _ (by omega) (by omega)), fun q => absurd (by rw [up2_k (by decide), up2_at]) q⟩
  · obtain ⟨⟨a1, a2, a3, a4, a5, a6, a7, a8, a9, a10, a11⟩, ww, tt, ⟨kk, kk1, kk2⟩, ⟨s, s1, s2, s3, s4, s5⟩, ⟨hd, q1, q2, q3⟩, b4⟩ := hS
    have es : s = s0 + 1 := (nI_eq (by omega) (by omega)).mp (s1.symm.trans hs1)
    refine ⟨⟨?_, ?_, ?_, ?_, ?_, ?_, ?_, ?_, ?_, ?_, ?_⟩, ?_, ?_, ⟨kk, ?_, by omega⟩, ⟨s, ?_, s2, ?_, ?_, ?_⟩, ⟨hd, ?_, q2, ?_⟩, ?_⟩
    · rw [co _ (by decide) (by decide), go _ (by omega) (by omega)]; exact a1
    · rw [co _ (by decide) (by decide), go _ (by omega) (by omega)]; exact a2
    · rw [co _ (by decide) (by decide), go _ (by omega) (by omega)]; exact a3
    · rw [co _ (by decide) (by decide), go _ (by omega) (by omega)]; exact a4
    · rw [co _ (by decide) (by decide), go _ (by omega) (by omega)]; exact a5
    · rw [co _ (by decide) (by decide), go _ (by omega) (by omega)]; exact a6
    · rw [co _ (by decide) (by decide), go _ (by omega) (by omega)]; exact a7
    · rw [cx _ (by omega), go _ (by omega) (by omega)]; exact a8
    · rw [co _ (by decide) (by decide), go _ (by omega) (by omega)]; exact a9
    · rw [cx _ (by omega), go _ (by omega) (by omega)]; exact a10
    · rw [up2_at, upd_at]
    · rw [co _ (by decide) (by decide)]; exact ww
    · rw [co _ (by decide) (by decide)]; exact tt
    · rw [co _ (by decide) (by decide)]; exact kk1
    · rw [cx _ (by omega)]; exact s1
    · intro k hk; rw [cx _ (by omega), cx _ (by omega), go _ (by omega) (by omega), go _ (by omega) (by omega)]; exact s3 k hk
    · rw [co _ (by decide) (by decide), go _ (by omega) (by omega)]; exact s4
    · intro e; omega
    · rw [cx _ (by omega)]; exact q1
    · intro k hk; rw [cx _ (by omega), go _ (by omega) (by omega)]; exact q3 k hk
    · rw [up2_at]; exact Or.inr rfl
  · rw [up2_k (by decide), up2_at]
  · rw [upd_ne (by omega), upd_at]
