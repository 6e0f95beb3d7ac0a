/-! items agree -/
theorem item_n {μ ν : Mem} {tx : Nat → Nat} {l p : Nat} (hT : RT μ tx l) (hM : MT ν tx l) (hp4 : μ 104 4 = nI p) (hpl : p < l) (hR : RDr μ ν p) (hp0 : p = 0) (htx : tx p = 110) : ItemR μ ν tx l p 1 := by
  obtain ⟨N, hm, sz, ⟨n1, n2, n3, n4⟩, hU, hZ, hK, hH, hS⟩ := hR
  have ec : nI (tx p) = 110 := by rw [htx]; rfl
  refine item_of (e := nE tx l (p + 1)) (c_X3_readItem110 hT hp4 hpl htx n1 n3) (by rw [ec]; exact c_X7_readsItem110 hM (by omega)) ?_ (fun _ => ⟨nE_le (by omega), by rw [up2_k (by omega), nm_end], FM.nm.tr FM.u0⟩) ?_ hT
  · simp only [okN, nX, nP_lat (show 0 < 59 by omega), nO]; omega
  · rintro ⟨h1, -, h2, h3⟩
    have h1' : nP tx l (p + 1) 59 := h1
    have hlt := h1'.1
    have hx : ∀ x, x ≠ 53 → x ≠ 104 → x ≠ 105 → up2 (rdM μ (nE tx l (p + 1) + 1) (upd (μ 105) 0 (nI (nV tx l (p + 1))))) 53 0 (nI (nV tx l (p + 1))) x = μ x := fun x a b c => by rw [up2_ne a, rd_x b c]
    have h53 : ∀ k, k ≠ 0 → up2 (rdM μ (nE tx l (p + 1) + 1) (upd (μ 105) 0 (nI (nV tx l (p + 1))))) 53 0 (nI (nV tx l (p + 1))) 53 k = μ 53 k := fun k a => by rw [up2_k a, rd_x (by omega) (by omega)]
    have hy : ∀ x, x ≠ 0 → up2 (nmM ν (nI (nV tx l (p + 1))) (nI (nE tx l (p + 1)))) 0 10 (nI (nV tx l (p + 1))) x = ν x := fun x a => by rw [up2_ne a, nm_x a]
    refine ⟨by rw [up2_ne (by omega), rd_p], by omega, by rw [up2_ne (by omega), rd_e], fun x hx' => hx x (by omega) (by omega) (by omega), nV tx l (p + 1), hm, sz, ⟨up2_at, up2_at, h3, Or.inr ⟨h2, by omega⟩⟩, ?_, ?_, ?_, ?_, ?_⟩
    · exact hU.fr (fun k k1 k2 => h53 k (by omega)) (hy 4 (by omega))
    · exact hZ.fr (h53 5 (by omega)) (by rw [hy 2 (by omega)])
    · exact hK.fr (h53 6 (by omega)) (h53 7 (by omega)) (hx 54 (by omega) (by omega) (by omega)) (fun j _ _ => by rw [hy 2 (by omega)])
    · exact hH.fr (fun i hi => by rw [hx _ (by unfold stA; omega) (by unfold stA; omega) (by unfold stA; omega)]) (fun j _ _ => by rw [hy 2 (by omega)])
    · exact hS.fr (fun i hi k _ => by rw [hx _ (by unfold stA; omega) (by unfold stA; omega) (by unfold stA; omega)]) (fun i hi d d1 d2 => hx _ (by unfold stA; omega) (by unfold stA; omega) (by unfold stA; omega)) (fun j _ _ => by rw [hy 2 (by omega)])
theorem RN.pos {μ ν : Mem} {N p : Nat} (h : RN μ ν N p) (hp : 0 < p) : 2 ≤ N := by
  rcases h.2.2.2 with w | w <;> omega
theorem item_z {μ ν : Mem} {tx : Nat → Nat} {l p : Nat} (hT : RT μ tx l) (hM : MT ν tx l) (hp4 : μ 104 4 = nI p) (hpl : p < l) (hR : RDr μ ν p) (hp0 : 0 < p) (htx : tx p = 122) : ItemR μ ν tx l p 0 := by
  obtain ⟨N, hm, sz, hN, hU, hZ, hK, hH, hS⟩ := hR
  have hN2 := hN.pos hp0
  obtain ⟨n1, n2, n3, n4⟩ := hN
  have ec : nI (tx p) = 122 := by rw [htx]; rfl
  have hv := nV_lt (tx := tx) (l := l) (p := p + 1)
  refine item_of (e := nE tx l (p + 1)) (c_X3_readItem122 hT hp4 hpl htx n1 n3) (by rw [ec]; exact c_X7_readsItem122 hM (by omega)) ?_ (fun _ => ⟨nE_le (by omega), by rw [up2_ne (by omega), nm_end], FM.nm.tr (FM.u2 (by omega))⟩) ?_ hT
  · simp only [okN, nX, nP_lat (show 0 < 59 by omega), nO]; omega
  · rintro ⟨h1, -⟩
    have h1' : nP tx l (p + 1) 59 := h1
    have hlt := h1'.1
    have hx : ∀ x, x ≠ 53 → x ≠ 104 → x ≠ 105 → up2 (rdM μ (nE tx l (p + 1) + 1) (upd (μ 105) 0 (nI (nV tx l (p + 1))))) 53 5 (nI (nV tx l (p + 1))) x = μ x := fun x a b c => by rw [up2_ne a, rd_x b c]
    have h53 : ∀ k, k ≠ 5 → up2 (rdM μ (nE tx l (p + 1) + 1) (upd (μ 105) 0 (nI (nV tx l (p + 1))))) 53 5 (nI (nV tx l (p + 1))) 53 k = μ 53 k := fun k a => by rw [up2_k a, rd_x (by omega) (by omega)]
    have hy : ∀ j, j ≠ 1308 → up2 (nmM ν (nI (nV tx l (p + 1))) (nI (nE tx l (p + 1)))) 2 1308 (nI (nV tx l (p + 1))) 2 j = ν 2 j := fun j a => by rw [up2_k a, nm_x (by omega)]
    refine ⟨by rw [up2_ne (by omega), rd_p], by omega, by rw [up2_ne (by omega), rd_e], fun x hx' => hx x (by omega) (by omega) (by omega), N, hm, sz, ⟨by rw [h53 0 (by omega)]; exact n1, by rw [up2_ne (by omega), nm_k (by omega) (by omega)]; exact n2, n3, Or.inr ⟨hN2, by omega⟩⟩, ?_, ?_, ?_, ?_, ?_⟩
    · exact hU.fr (fun k k1 k2 => h53 k (by omega)) (by rw [up2_ne (by omega), nm_x (by omega)])
    · exact ⟨_, up2_at, up2_at, hv⟩
    · exact hK.fr (h53 6 (by omega)) (h53 7 (by omega)) (hx 54 (by omega) (by omega) (by omega)) (fun j _ a => hy j a)
    · exact hH.fr (fun i hi => by rw [hx _ (by unfold stA; omega) (by unfold stA; omega) (by unfold stA; omega)]) (fun j _ _ => hy j (by omega))
    · exact hS.fr (fun i hi k _ => by rw [hx _ (by unfold stA; omega) (by unfold stA; omega) (by unfold stA; omega)]) (fun i hi d d1 d2 => hx _ (by unfold stA; omega) (by unfold stA; omega) (by unfold stA; omega)) (fun j _ _ => hy j (by omega))
/-- two rules are set -/
theorem RDr.rules {μ ν : Mem} {p e P a b k : Nat} {g : Nat → Int32} {w ed : Int32} (hR : RDr μ ν p) (hp0 : 0 < p) (hpe : p < e) (hk : k = 0 ∨ k = 2) (hc : (k = 0 → 1 ≤ a ∧ a ≤ 64 ∧ 1 ≤ b ∧ b ≤ 64) ∧ (k = 2 → b ≤ 7)) : RDr (up2 (up2 (rdM μ P g) 53 (k + 1) (nI a)) 53 (k + 2) (nI b)) (nmM (up2 (up2 ν 4 k (nI a)) 4 (k + 1) (nI b)) w ed) e := by
  obtain ⟨N, hm, sz, hN, hU, hZ, hK, hH, hS⟩ := hR
  have hN2 := hN.pos hp0
  obtain ⟨n1, n2, n3, n4⟩ := hN
  have hx : ∀ x, x ≠ 53 → x ≠ 104 → x ≠ 105 → up2 (up2 (rdM μ P g) 53 (k + 1) (nI a)) 53 (k + 2) (nI b) x = μ x := fun x a b c => by rw [up2_ne a, up2_ne a, rd_x b c]
  have h53 : ∀ j, j ≠ k + 1 → j ≠ k + 2 → up2 (up2 (rdM μ P g) 53 (k + 1) (nI a)) 53 (k + 2) (nI b) 53 j = μ 53 j := fun j a b => by rw [up2_k b, up2_k a, rd_x (by omega) (by omega)]
  have e1 : up2 (up2 (rdM μ P g) 53 (k + 1) (nI a)) 53 (k + 2) (nI b) 53 (k + 1) = nI a := by rw [up2_k (by omega), up2_at]
  have e2 : up2 (up2 (rdM μ P g) 53 (k + 1) (nI a)) 53 (k + 2) (nI b) 53 (k + 2) = nI b := up2_at
  have f1 : nmM (up2 (up2 ν 4 k (nI a)) 4 (k + 1) (nI b)) w ed 4 k = nI a := by rw [nm_x (by omega), up2_k (by omega), up2_at]
  have f2 : nmM (up2 (up2 ν 4 k (nI a)) 4 (k + 1) (nI b)) w ed 4 (k + 1) = nI b := by rw [nm_x (by omega), up2_at]
  have f3 : ∀ j, j ≠ k → j ≠ k + 1 → nmM (up2 (up2 ν 4 k (nI a)) 4 (k + 1) (nI b)) w ed 4 j = ν 4 j := fun j a b => by rw [nm_x (by omega), up2_k b, up2_k a]
  have hy : ∀ x, x ≠ 0 → x ≠ 4 → nmM (up2 (up2 ν 4 k (nI a)) 4 (k + 1) (nI b)) w ed x = ν x := fun x a b => by rw [nm_x a, up2_ne b, up2_ne b]
  have y0 : nmM (up2 (up2 ν 4 k (nI a)) 4 (k + 1) (nI b)) w ed 0 10 = ν 0 10 := by rw [nm_k (by omega) (by omega), up2_ne (by omega), up2_ne (by omega)]
  generalize up2 (up2 (rdM μ P g) 53 (k + 1) (nI a)) 53 (k + 2) (nI b) = u at *
  generalize nmM (up2 (up2 ν 4 k (nI a)) 4 (k + 1) (nI b)) w ed = v at *
  refine ⟨N, hm, sz, ⟨by rw [h53 0 (by omega) (by omega)]; exact n1, y0.trans n2, n3, Or.inr ⟨hN2, by omega⟩⟩, ?_, ?_, ?_, ?_, ?_⟩
  · rcases hk with rfl | rfl
    · have q := hc.1 rfl
      refine ⟨⟨a, e1, f1, q.1, q.2.1⟩, ⟨b, e2, f2, q.2.2⟩, ?_, ?_⟩
      · rw [h53 3 (by omega) (by omega), f3 2 (by omega) (by omega)]; exact hU.2.2.1
      · rw [h53 4 (by omega) (by omega), f3 3 (by omega) (by omega)]; exact hU.2.2.2
    · have q := hc.2 rfl
      refine ⟨?_, ?_, e1.trans f1.symm, ⟨b, e2, f2, q⟩⟩
      · rw [h53 1 (by omega) (by omega), f3 0 (by omega) (by omega)]; exact hU.1
      · rw [h53 2 (by omega) (by omega), f3 1 (by omega) (by omega)]; exact hU.2.1
  · exact hZ.fr (h53 5 (by omega) (by omega)) (by rw [hy 2 (by omega) (by omega)])
  · exact hK.fr (h53 6 (by omega) (by omega)) (h53 7 (by omega) (by omega)) (hx 54 (by omega) (by omega) (by omega)) (fun j _ a => by rw [hy 2 (by omega) (by omega)])
  · exact hH.fr (fun i hi => by rw [hx _ (by unfold stA; omega) (by unfold stA; omega) (by unfold stA; omega)]) (fun j _ _ => by rw [hy 2 (by omega) (by omega)])
  · exact hS.fr (fun i hi k _ => by rw [hx _ (by unfold stA; omega) (by unfold stA; omega) (by unfold stA; omega)]) (fun i hi d d1 d2 => hx _ (by unfold stA; omega) (by unfold stA; omega) (by unfold stA; omega)) (fun j _ _ => by rw [hy 2 (by omega) (by omega)])
theorem FM.r4 {ν : Mem} {j k : Nat} {a b c d : Int32} : FM ν (nmM (up2 (up2 ν 4 j a) 4 k b) c d) := (FM.u4.tr FM.u4).tr FM.nm
theorem item_w {μ ν : Mem} {tx : Nat → Nat} {l p : Nat} (hT : RT μ tx l) (hM : MT ν tx l) (hp4 : μ 104 4 = nI p) (hpl : p < l) (hR : RDr μ ν p) (hp0 : 0 < p) (htx : tx p = 119) : ItemR μ ν tx l p 0 := by
  obtain ⟨N, hm, sz, hN, -⟩ := id hR
  have hN2 := hN.pos hp0
  obtain ⟨n1, n2, n3, n4⟩ := hN
  have ec : nI (tx p) = 119 := by rw [htx]; rfl
  refine item_of (e := nE tx l (nE tx l (p + 1) + 1)) (c_X3_readItem119 hT hp4 hpl htx n1 n3) (by rw [ec]; exact c_X7_readsItem119 hM (by omega)) ?_ ?_ ?_ hT
  · simp only [okN, nX, nP_lat (show 0 < 59 by omega), nP_lat (show 0 < 44 by omega), nO]; omega
  · rintro ⟨-, q, -⟩; exact ⟨nE_le (((lat_is (by omega)).mp q).1), by rw [nm_end], FM.r4⟩
  · rintro ⟨h1, -, h2⟩
    have h1' : nP tx l (p + 1) 44 ∧ nP tx l (nE tx l (p + 1) + 1) 59 := h1
    have hl1 := h1'.1.1
    have hl2 := h1'.2.1
    exact ⟨by rw [up2_ne (by omega), up2_ne (by omega), rd_p], by omega, by rw [up2_ne (by omega), up2_ne (by omega), rd_e], fun x hx => by rw [up2_ne (by omega), up2_ne (by omega), rd_x (by omega) (by omega)], hR.rules (k := 0) hp0 (by omega) (Or.inl rfl) ⟨fun _ => by omega, fun q => by omega⟩⟩
theorem item_t {μ ν : Mem} {tx : Nat → Nat} {l p : Nat} (hT : RT μ tx l) (hM : MT ν tx l) (hp4 : μ 104 4 = nI p) (hpl : p < l) (hR : RDr μ ν p) (hp0 : 0 < p) (htx : tx p = 116) : ItemR μ ν tx l p 0 := by
  obtain ⟨N, hm, sz, hN, -⟩ := id hR
  have hN2 := hN.pos hp0
  obtain ⟨n1, n2, n3, n4⟩ := hN
  have ec : nI (tx p) = 116 := by rw [htx]; rfl
  refine item_of (e := nE tx l (nE tx l (p + 1) + 1)) (c_X3_readItem116 hT hp4 hpl htx n1 n3) (by rw [ec]; exact c_X7_readsItem116 hM (by omega)) ?_ ?_ ?_ hT
  · simp only [okN, nX, nP_lat (show 0 < 59 by omega), nP_lat (show 0 < 44 by omega), nO]; omega
  · rintro ⟨-, q, -⟩; exact ⟨nE_le (((lat_is (by omega)).mp q).1), by rw [nm_end], FM.r4⟩
  · rintro ⟨h1, -, h2⟩
    have h1' : nP tx l (p + 1) 44 ∧ nP tx l (nE tx l (p + 1) + 1) 59 := h1
    have hl1 := h1'.1.1
    have hl2 := h1'.2.1
    exact ⟨by rw [up2_ne (by omega), up2_ne (by omega), rd_p], by omega, by rw [up2_ne (by omega), up2_ne (by omega), rd_e], fun x hx => by rw [up2_ne (by omega), up2_ne (by omega), rd_x (by omega) (by omega)], hR.rules (k := 2) hp0 (by omega) (Or.inr rfl) ⟨fun q => by omega, fun _ => by omega⟩⟩
