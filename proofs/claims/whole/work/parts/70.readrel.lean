/-! what holds between the trial and the reference's third section while a text is read up to p -/
def RN (μ ν : Mem) (N p : Nat) : Prop := μ 53 0 = nI N ∧ ν 0 10 = nI N ∧ N ≤ 6 ∧ (N = 0 ∧ p = 0 ∨ 2 ≤ N ∧ 0 < p)
def RU (μ ν : Mem) : Prop := (∃ l, μ 53 1 = nI l ∧ ν 4 0 = nI l ∧ 1 ≤ l ∧ l ≤ 64) ∧ (∃ m, μ 53 2 = nI m ∧ ν 4 1 = nI m ∧ 1 ≤ m ∧ m ≤ 64) ∧ μ 53 3 = ν 4 2 ∧ ∃ r, μ 53 4 = nI r ∧ ν 4 3 = nI r ∧ r ≤ 7
def RZ (μ ν : Mem) : Prop := ∃ z, μ 53 5 = nI z ∧ ν 2 1308 = nI z ∧ z ≤ 9999
def RK (μ ν : Mem) : Prop := μ 53 6 = 0 ∧ ν 2 1306 = 0 ∧ μ 53 7 = 0 ∧ ν 2 1307 = 0 ∧ (∀ k, k < 10 → μ 54 k = 0) ∧ ∀ k, 1 ≤ k → k ≤ 9 → ν 2 (1309 + k) = 0
def RH (μ ν : Mem) (hm : Nat → Nat) : Prop := (∀ i, i < 6 → hm i < 64 ∧ μ (stA 53 i) 0 = nI (hm i) ∧ ν 2 (1300 + i) = nI (hm i)) ∧ (∀ i j, i < 6 → j < 6 → (hm i).testBit j = (hm j).testBit i) ∧ ∀ i, i < 6 → (hm i).testBit i = false
def RSt (μ : Mem) (o : Nat) (f : Nat → Int32) (c s : Nat) : Prop := (∀ k, 1 ≤ k → k < 15 → μ o k = 0) ∧ μ (o + 1) 0 = nI s ∧ f (c + 8) = nI s ∧ s ≤ 6 ∧ (∀ k, k < s → μ (o + 2) k = f (c + 9 + 2 * k) ∧ μ (o + 3) k = f (c + 9 + 2 * k + 1)) ∧ μ (o + 4) 0 = 0 ∧ (∀ k, k < 4 → μ (o + 6) k = 0) ∧ ∀ k, k < 70 → (k < 8 ∨ 21 ≤ k) → f (c + k) = 0
def RS (μ ν : Mem) (sz : Nat → Nat) : Prop := ∀ i, i < 6 → RSt μ (stA 53 i) (ν 2) (880 + 70 * i) (sz i)
def RDr (μ ν : Mem) (p : Nat) : Prop := ∃ (N : Nat) (hm sz : Nat → Nat), RN μ ν N p ∧ RU μ ν ∧ RZ μ ν ∧ RK μ ν ∧ RH μ ν hm ∧ RS μ ν sz
theorem RU.fr {μ u ν v : Mem} (h1 : ∀ k, 1 ≤ k → k ≤ 4 → u 53 k = μ 53 k) (h2 : v 4 = ν 4) (h : RU μ ν) : RU u v := by
  unfold RU; rw [h1 1 (by omega) (by omega), h1 2 (by omega) (by omega), h1 3 (by omega) (by omega), h1 4 (by omega) (by omega), h2]; exact h
theorem RZ.fr {μ u ν v : Mem} (h1 : u 53 5 = μ 53 5) (h2 : v 2 1308 = ν 2 1308) (h : RZ μ ν) : RZ u v := by
  unfold RZ; rw [h1, h2]; exact h
theorem RK.fr {μ u ν v : Mem} (h1 : u 53 6 = μ 53 6) (h2 : u 53 7 = μ 53 7) (h3 : u 54 = μ 54) (h4 : ∀ j, 1306 ≤ j → j ≠ 1308 → v 2 j = ν 2 j) (h : RK μ ν) : RK u v := by
  unfold RK; rw [h1, h2, h3, h4 1306 (by omega) (by omega), h4 1307 (by omega) (by omega)]
  exact ⟨h.1, h.2.1, h.2.2.1, h.2.2.2.1, h.2.2.2.2.1, fun k k1 k2 => by rw [h4 _ (by omega) (by omega)]; exact h.2.2.2.2.2 k k1 k2⟩
theorem RH.fr {μ u ν v : Mem} {hm : Nat → Nat} (h1 : ∀ i, i < 6 → u (stA 53 i) 0 = μ (stA 53 i) 0) (h2 : ∀ j, 1300 ≤ j → j < 1306 → v 2 j = ν 2 j) (h : RH μ ν hm) : RH u v hm :=
  ⟨fun i hi => by rw [h1 i hi, h2 _ (by omega) (by omega)]; exact h.1 i hi, h.2⟩
theorem RSt.fr {μ u : Mem} {o : Nat} {f g : Nat → Int32} {c s : Nat} (h1 : ∀ k, 1 ≤ k → u o k = μ o k) (h2 : ∀ d, 1 ≤ d → d ≤ 6 → u (o + d) = μ (o + d)) (h3 : ∀ k, k < 70 → g (c + k) = f (c + k)) (h : RSt μ o f c s) : RSt u o g c s := by
  obtain ⟨a1, a2, a3, a4, a5, a6, a7, a8⟩ := h
  refine ⟨fun k k1 k2 => by rw [h1 k k1]; exact a1 k k1 k2, by rw [h2 1 (by omega) (by omega)]; exact a2, by rw [h3 8 (by omega)]; exact a3, a4, fun k hk => ?_, by rw [h2 4 (by omega) (by omega)]; exact a6, fun k hk => by rw [h2 6 (by omega) (by omega)]; exact a7 k hk, fun k k1 k2 => by rw [h3 k k1]; exact a8 k k1 k2⟩
  rw [h2 2 (by omega) (by omega), h2 3 (by omega) (by omega), show c + 9 + 2 * k = c + (9 + 2 * k) by omega, show c + (9 + 2 * k) + 1 = c + (10 + 2 * k) by omega, h3 _ (by omega), h3 _ (by omega)]
  have := a5 k hk
  rw [show c + 9 + 2 * k = c + (9 + 2 * k) by omega, show c + (9 + 2 * k) + 1 = c + (10 + 2 * k) by omega] at this
  exact this
theorem RS.fr {μ u ν v : Mem} {sz : Nat → Nat} (h1 : ∀ i, i < 6 → ∀ k, 1 ≤ k → u (stA 53 i) k = μ (stA 53 i) k) (h2 : ∀ i, i < 6 → ∀ d, 1 ≤ d → d ≤ 6 → u (stA 53 i + d) = μ (stA 53 i + d)) (h3 : ∀ j, 880 ≤ j → j < 1300 → v 2 j = ν 2 j) (h : RS μ ν sz) : RS u v sz :=
  fun i hi => (h i hi).fr (h1 i hi) (h2 i hi) (fun k hk => h3 _ (by omega) (by omega))
def FC (μ u : Mem) : Prop := ∀ x, (x < 53 ∨ 105 < x) → u x = μ x
theorem FC.tr {μ u w : Mem} (h1 : FC μ u) (h2 : FC u w) : FC μ w := fun x hx => (h2 x hx).trans (h1 x hx)
theorem FC.rd {μ : Mem} {p : Nat} {g : Nat → Int32} : FC μ (rdM μ p g) := fun x hx => rd_x (by omega) (by omega)
theorem MT.fm {ν u : Mem} {tx : Nat → Nat} {l : Nat} (h : MT ν tx l) (hF : FM ν u) : MT u tx l :=
  ⟨by rw [hF.2.1 0 (by omega) (by omega) (by omega)]; exact h.1, by rw [hF.1 1 (by omega) (by omega) (by omega)]; exact h.2.1, h.2.2⟩
theorem nP_lat {tx : Nat → Nat} {l p c : Nat} (hc : 0 < c) : nP tx l p c ↔ p < nE tx l p ∧ lat tx l (nE tx l p) = c := by
  unfold nP; rw [lat_is hc]
/-- both fail at an item, or both go on and agree -/
def ItemR (μ ν : Mem) (tx : Nat → Nat) (l p : Nat) (f : Int32) : Prop :=
  (Con shC mX3_readItem [.ref 104] μ (fun r u => r = 0 ∧ ∃ p2 g2, u = rdM μ p2 g2) ∧ Con shM mX7_readsItem [.ref 0, .int (nI (tx p)), .int (nI (p + 1)), .int f] ν (fun s v => FM ν v ∧ (s = 0 ∨ ∃ e, e ≤ l ∧ v 0 13 = nI e ∧ lat tx l e ≠ 59))) ∨
  ∃ μ' ν' e, Con shC mX3_readItem [.ref 104] μ (fun r u => r = 1 ∧ u = μ') ∧ Con shM mX7_readsItem [.ref 0, .int (nI (tx p)), .int (nI (p + 1)), .int f] ν (fun s v => s = 1 ∧ v = ν') ∧ p < e ∧ e ≤ l ∧ lat tx l e = 59 ∧ ν' 0 13 = nI e ∧ μ' 104 4 = nI (e + 1) ∧ RT μ' tx l ∧ FC μ μ' ∧ FM ν ν' ∧ RDr μ' ν' (e + 1)
theorem item_of {μ ν : Mem} {tx : Nat → Nat} {l p : Nat} {f : Int32} {CC RC : Prop} {E F : Mem} {e : Nat}
    (hC : Con shC mX3_readItem [.ref 104] μ (fun r u => (r = 1 ∧ CC ∧ u = E) ∨ (r = 0 ∧ ¬ CC ∧ ∃ p2 g2, u = rdM μ p2 g2)))
    (hM : Con shM mX7_readsItem [.ref 0, .int (nI (tx p)), .int (nI (p + 1)), .int f] ν (fun s v => (s = 1 ∧ RC ∧ v = F) ∨ (s = 0 ∧ ¬ RC ∧ FM ν v)))
    (hiff : CC ↔ RC ∧ lat tx l e = 59) (he : RC → e ≤ l ∧ F 0 13 = nI e ∧ FM ν F) (hok : CC → E 104 4 = nI (e + 1) ∧ p < e ∧ E 104 3 = μ 104 3 ∧ FC μ E ∧ RDr E F (e + 1)) (hT : RT μ tx l) : ItemR μ ν tx l p f := by
  by_cases h : CC
  · have hr := hiff.mp h
    obtain ⟨a1, a2, a3⟩ := he hr.1
    obtain ⟨b1, b2, b3, b4, b5⟩ := hok h
    refine Or.inr ⟨E, F, e, hC.mono ?_, hM.mono ?_, b2, a1, hr.2, a2, b1, ⟨by rw [b3]; exact hT.1, by rw [b4 1 (by omega)]; exact hT.2.1, hT.2.2⟩, b4, a3, b5⟩
    · rintro r u (w | w)
      · exact ⟨w.1, w.2.2⟩
      · exact absurd h w.2.1
    · rintro r u (w | w)
      · exact ⟨w.1, w.2.2⟩
      · exact absurd hr.1 w.2.1
  · refine Or.inl ⟨hC.mono ?_, hM.mono ?_⟩
    · rintro r u (w | w)
      · exact absurd w.2.1 h
      · exact ⟨w.1, w.2.2⟩
    · rintro r u (w | w)
      · obtain ⟨a1, a2, a3⟩ := he w.2.1
        rw [w.2.2]
        exact ⟨a3, Or.inr ⟨e, a1, a2, fun q => h (hiff.mpr ⟨w.2.1, q⟩)⟩⟩
      · exact ⟨w.2.2, Or.inl w.1⟩
theorem bit_o : ∀ a, a < 64 → ∀ j, j < 6 → ∀ x, x < 6 → (a ||| 2 ^ j).testBit x = (a.testBit x || decide (x = j)) := by decide +kernel
