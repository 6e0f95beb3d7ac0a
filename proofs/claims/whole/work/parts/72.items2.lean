/-! items agree: a pair, a letter; any item -/
theorem RDr.joins {μ ν : Mem} {p e P i j : Nat} {g : Nat → Int32} {w ed : Int32} (hR : RDr μ ν p) (hp0 : 0 < p) (hpe : p < e) (hi : i < 6) (hj : j < 6) (hij : i ≠ j) : RDr (jonF (rdM μ P g) 53 i j) (hrsF (nmM ν w ed) 2 i j) e := by
  obtain ⟨N, hm, sz, hN, hU, hZ, hK, ⟨hH, hsym, hirr⟩, hS⟩ := hR
  have hN2 := hN.pos hp0
  obtain ⟨n1, n2, n3, n4⟩ := hN
  have hne : stA 53 i ≠ stA 53 j := by unfold stA; omega
  have hx : ∀ x, x ≠ stA 53 i → x ≠ stA 53 j → x ≠ 104 → x ≠ 105 → jonF (rdM μ P g) 53 i j x = μ x := fun x a b c d => by unfold jonF; rw [up2_ne b, up2_ne a, rd_x c d]
  have hk : ∀ y k, k ≠ 0 → y ≠ 104 → y ≠ 105 → jonF (rdM μ P g) 53 i j y k = μ y k := fun y k a c d => by
    have q : ∀ (M : Mem) o (v : Int32), up2 M o 0 v y k = M y k := fun M o v => by
      by_cases e : y = o
      · subst e; exact up2_k a
      · rw [up2_ne e]
    unfold jonF; rw [q, q, rd_x c d]
  have oi := or_nI _ (hH i hi).1 j hj
  have oj := or_nI _ (hH j hj).1 i hi
  have ei : jonF (rdM μ P g) 53 i j (stA 53 i) 0 = nI (hm i ||| 2 ^ j) := by
    unfold jonF; rw [up2_ne hne, up2_at, rd_x (by unfold stA; omega) (by unfold stA; omega), (hH i hi).2.1]; exact oi.1
  have ej : jonF (rdM μ P g) 53 i j (stA 53 j) 0 = nI (hm j ||| 2 ^ i) := by
    unfold jonF; rw [up2_at, rd_x (by unfold stA; omega) (by unfold stA; omega), (hH j hj).2.1]; exact oj.1
  have fi : hrsF (nmM ν w ed) 2 i j 2 (1300 + i) = nI (hm i ||| 2 ^ j) := by
    unfold hrsF; rw [up2_k (by omega), show 440 * 2 + 420 + i = 1300 + i by omega, up2_at, nm_x (by omega), (hH i hi).2.2]; exact oi.1
  have fj : hrsF (nmM ν w ed) 2 i j 2 (1300 + j) = nI (hm j ||| 2 ^ i) := by
    unfold hrsF; rw [show 440 * 2 + 420 + j = 1300 + j by omega, up2_at, nm_x (by omega), (hH j hj).2.2]; exact oj.1
  have fx : ∀ y, y ≠ 1300 + i → y ≠ 1300 + j → hrsF (nmM ν w ed) 2 i j 2 y = ν 2 y := fun y a b => by
    unfold hrsF; rw [up2_k (by omega), up2_k (by omega), nm_x (by omega)]
  have f0 : ∀ x, x ≠ 0 → x ≠ 2 → hrsF (nmM ν w ed) 2 i j x = ν x := fun x a b => by unfold hrsF; rw [up2_ne b, up2_ne b, nm_x a]
  have f10 : hrsF (nmM ν w ed) 2 i j 0 10 = ν 0 10 := by unfold hrsF; rw [up2_ne (by omega), up2_ne (by omega), nm_k (by omega) (by omega)]
  generalize jonF (rdM μ P g) 53 i j = u at *
  generalize hrsF (nmM ν w ed) 2 i j = v at *
  have e53 : u 53 = μ 53 := hx 53 (by unfold stA; omega) (by unfold stA; omega) (by omega) (by omega)
  refine ⟨N, fun x => if x = i then hm i ||| 2 ^ j else if x = j then hm j ||| 2 ^ i else hm x, sz, ⟨by rw [e53]; exact n1, f10.trans n2, n3, Or.inr ⟨hN2, by omega⟩⟩, ?_, ?_, ?_, ⟨fun x hx6 => ?_, fun x y hx6 hy6 => ?_, fun x hx6 => ?_⟩, ?_⟩
  · exact hU.fr (fun k _ _ => by rw [e53]) (f0 4 (by omega) (by omega))
  · exact hZ.fr (by rw [e53]) (fx _ (by omega) (by omega))
  · exact hK.fr (by rw [e53]) (by rw [e53]) (hx 54 (by unfold stA; omega) (by unfold stA; omega) (by omega) (by omega)) (fun y _ _ => fx y (by omega) (by omega))
  · by_cases e1 : x = i
    · subst e1; simp only [if_true]; exact ⟨oi.2, ei, fi⟩
    · by_cases e2 : x = j
      · subst e2; simp only [if_neg e1, if_true]; exact ⟨oj.2, ej, fj⟩
      · simp only [if_neg e1, if_neg e2]
        exact ⟨(hH x hx6).1, by rw [hx _ (by unfold stA; omega) (by unfold stA; omega) (by unfold stA; omega) (by unfold stA; omega)]; exact (hH x hx6).2.1, by rw [fx _ (by omega) (by omega)]; exact (hH x hx6).2.2⟩
  · have hb : ∀ x y, x < 6 → y < 6 → (if x = i then hm i ||| 2 ^ j else if x = j then hm j ||| 2 ^ i else hm x).testBit y = ((hm x).testBit y || decide ((x = i ∧ y = j) ∨ (x = j ∧ y = i))) := by
      intro x y hxx hy
      by_cases e1 : x = i
      · subst e1
        rw [if_pos rfl, bit_o _ (hH x hxx).1 j hj y hy]
        congr 1; apply decide_eq_decide.mpr; omega
      · by_cases e2 : x = j
        · subst e2
          rw [if_neg e1, if_pos rfl, bit_o _ (hH x hxx).1 i hi y hy]
          congr 1; apply decide_eq_decide.mpr; omega
        · rw [if_neg e1, if_neg e2, decide_eq_false (by omega), Bool.or_false]
    show (if x = i then hm i ||| 2 ^ j else if x = j then hm j ||| 2 ^ i else hm x).testBit y = (if y = i then hm i ||| 2 ^ j else if y = j then hm j ||| 2 ^ i else hm y).testBit x
    rw [hb x y hx6 hy6, hb y x hy6 hx6, hsym x y hx6 hy6]
    congr 1; apply decide_eq_decide.mpr; omega
  · by_cases e1 : x = i
    · subst e1; simp only [if_true]; rw [bit_o _ (hH x hx6).1 j hj x hx6, hirr x hx6, decide_eq_false hij]; rfl
    · by_cases e2 : x = j
      · subst e2; simp only [if_neg e1, if_true]; rw [bit_o _ (hH x hx6).1 i hi x hx6, hirr x hx6, decide_eq_false e1]; rfl
      · simp only [if_neg e1, if_neg e2]; exact hirr x hx6
  · exact hS.fr (fun x hx6 k k1 => hk _ k (by omega) (by unfold stA; omega) (by unfold stA; omega)) (fun x hx6 d d1 d2 => hx _ (by unfold stA; omega) (by unfold stA; omega) (by unfold stA; omega) (by unfold stA; omega)) (fun y _ _ => fx y (by omega) (by omega))
theorem FM.hrs {ν : Mem} {i j : Nat} : FM ν (hrsF ν 2 i j) := (FM.u2 (by omega)).tr (FM.u2 (by omega))
theorem item_h {μ ν : Mem} {tx : Nat → Nat} {l p : Nat} (hT : RT μ tx l) (hM : MT ν tx l) (hp4 : μ 104 4 = nI p) (hpl : p < l) (hR : RDr μ ν p) (hp0 : 0 < p) (htx : tx p = 104) : ItemR μ ν tx l p 0 := by
  obtain ⟨N, hm, sz, hN, -⟩ := id hR
  have hN2 := hN.pos hp0
  obtain ⟨n1, n2, n3, n4⟩ := hN
  have ec : nI (tx p) = 104 := by rw [htx]; rfl
  refine item_of (e := nE tx l (nE tx l (p + 1) + 1)) (c_X3_readItem104 hT hp4 hpl htx n1 n3) (by rw [ec]; exact c_X7_readsItem104 hM (by omega) n2 n3 (by omega)) ?_ ?_ ?_ hT
  · simp only [okN, nX, nP_lat (show 0 < 59 by omega), nP_lat (show 0 < 44 by omega), nO]; omega
  · rintro ⟨-, q, -⟩; exact ⟨nE_le (((lat_is (by omega)).mp q).1), by unfold hrsF; rw [up2_ne (by omega), up2_ne (by omega), nm_end], FM.nm.tr FM.hrs⟩
  · rintro ⟨h1, -, h2, h3, h4⟩
    have h1' : nP tx l (p + 1) 44 ∧ nP tx l (nE tx l (p + 1) + 1) 59 := h1
    have hl1 := h1'.1.1
    have hl2 := h1'.2.1
    refine ⟨?_, by omega, ?_, fun x hx => ?_, hR.joins hp0 (by omega) (by omega) (by omega) h4⟩
    · unfold jonF; rw [up2_ne (by unfold stA; omega), up2_ne (by unfold stA; omega), rd_p]
    · unfold jonF; rw [up2_ne (by unfold stA; omega), up2_ne (by unfold stA; omega), rd_e]
    · unfold jonF; rw [up2_ne (by unfold stA; omega), up2_ne (by unfold stA; omega), rd_x (by omega) (by omega)]
theorem RSt.add {μ : Mem} {o : Nat} {f : Nat → Int32} {c s : Nat} {to l : Int32} (h : RSt μ o f c s) (hl : s < 6) : RSt (addF μ (o + 1) s to l) o (adF f c s to l) c (s + 1) := by
  obtain ⟨a1, a2, a3, a4, a5, a6, a7, a8⟩ := h
  have e0 : addF μ (o + 1) s to l o = μ o := add_o (by omega) (by omega) (by omega)
  have e4 : addF μ (o + 1) s to l (o + 4) = μ (o + 4) := add_o (by omega) (by omega) (by omega)
  have e6 : addF μ (o + 1) s to l (o + 6) = μ (o + 6) := add_o (by omega) (by omega) (by omega)
  refine ⟨by rw [e0]; exact a1, by unfold addF; exact up2_at, by unfold adF; rw [upd_at], by omega, fun k hk => ?_, by rw [e4]; exact a6, by rw [e6]; exact a7, fun k k1 k2 => by rw [adF_c hl k2]; exact a8 k k1 k2⟩
  have u2 : addF μ (o + 1) s to l (o + 2) k = if k = s then to else μ (o + 2) k := by
    unfold addF; rw [up2_ne (by omega), up2_ne (by omega), up2_ap]; simp
  have u3 : addF μ (o + 1) s to l (o + 3) k = if k = s then l else μ (o + 3) k := by
    unfold addF; rw [up2_ne (by omega), show o + 1 + 2 = o + 3 by omega, up2_ap, up2_ne (by omega)]; simp
  rw [u2, u3]
  by_cases e : k = s
  · subst e
    rw [if_pos rfl, if_pos rfl]
    unfold adF
    rw [upd_ne (by omega), upd_ne (by omega), upd_at, upd_ne (by omega), upd_at]
    exact ⟨rfl, rfl⟩
  · rw [if_neg e, if_neg e, adF_ne (by omega) (by omega) (by omega), adF_ne (by omega) (by omega) (by omega)]
    exact a5 k (by omega)
theorem RDr.adds {μ ν : Mem} {N p e P i : Nat} {hm sz : Nat → Nat} {g : Nat → Int32} {w ed to l : Int32} (hN : RN μ ν N p) (hU : RU μ ν) (hZ : RZ μ ν) (hK : RK μ ν) (hH : RH μ ν hm) (hS : RS μ ν sz) (hp0 : 0 < p) (hpe : p < e) (hi : i < 6) (hl : sz i < 6) : RDr (addF (rdM μ P g) (stA 53 i + 1) (sz i) to l) (adsF (nmM ν w ed) 2 i (sz i) to l) e := by
  have hN2 := hN.pos hp0
  obtain ⟨n1, n2, n3, n4⟩ := hN
  have hx : ∀ x, x ≠ stA 53 i + 1 → x ≠ stA 53 i + 2 → x ≠ stA 53 i + 3 → x ≠ 104 → x ≠ 105 → addF (rdM μ P g) (stA 53 i + 1) (sz i) to l x = μ x := fun x a b c d d2 => by rw [add_o a b c, rd_x d d2]
  have fx : ∀ y, (y < 880 + 70 * i ∨ 880 + 70 * i + 70 ≤ y) → adsF (nmM ν w ed) 2 i (sz i) to l 2 y = ν 2 y := fun y a => by
    unfold adsF; rw [up2_k (by omega), up2_k (by omega), up2_k (by omega), nm_x (by omega)]
  have f0 : ∀ x, x ≠ 0 → x ≠ 2 → adsF (nmM ν w ed) 2 i (sz i) to l x = ν x := fun x a b => by unfold adsF; rw [up2_ne b, up2_ne b, up2_ne b, nm_x a]
  have f10 : adsF (nmM ν w ed) 2 i (sz i) to l 0 10 = ν 0 10 := by unfold adsF; rw [up2_ne (by omega), up2_ne (by omega), up2_ne (by omega), nm_k (by omega) (by omega)]
  have f2 : adsF (nmM ν w ed) 2 i (sz i) to l 2 = adF (ν 2) (880 + 70 * i) (sz i) to l := by
    unfold adsF adF; rw [up2_row, up2_row, up2_row, nm_x (by omega)]
  have hi1 : RSt (addF (rdM μ P g) (stA 53 i + 1) (sz i) to l) (stA 53 i) (adF (ν 2) (880 + 70 * i) (sz i) to l) (880 + 70 * i) (sz i + 1) := RSt.add ((hS i hi).fr (fun k _ => by rw [rd_x (by unfold stA; omega) (by unfold stA; omega)]) (fun d _ _ => rd_x (by unfold stA; omega) (by unfold stA; omega)) (fun _ _ => rfl)) hl
  rw [← f2] at hi1
  generalize addF (rdM μ P g) (stA 53 i + 1) (sz i) to l = u at *
  generalize adsF (nmM ν w ed) 2 i (sz i) to l = v at *
  have e53 : u 53 = μ 53 := hx 53 (by unfold stA; omega) (by unfold stA; omega) (by unfold stA; omega) (by omega) (by omega)
  refine ⟨N, hm, fun x => if x = i then sz i + 1 else sz x, ⟨by rw [e53]; exact n1, f10.trans n2, n3, Or.inr ⟨hN2, by omega⟩⟩, ?_, ?_, ?_, ?_, fun x hx6 => ?_⟩
  · exact hU.fr (fun k _ _ => by rw [e53]) (f0 4 (by omega) (by omega))
  · exact hZ.fr (by rw [e53]) (fx _ (by omega))
  · exact hK.fr (by rw [e53]) (by rw [e53]) (hx 54 (by unfold stA; omega) (by unfold stA; omega) (by unfold stA; omega) (by omega) (by omega)) (fun y _ _ => fx y (by omega))
  · exact hH.fr (fun x hx6 => by rw [hx _ (by unfold stA; omega) (by unfold stA; omega) (by unfold stA; omega) (by unfold stA; omega) (by unfold stA; omega)]) (fun y _ _ => fx y (by omega))
  · by_cases e1 : x = i
    · subst e1; simp only [if_true]; exact hi1
    · simp only [if_neg e1]
      exact (hS x hx6).fr (fun k k1 => by rw [hx _ (by unfold stA; omega) (by unfold stA; omega) (by unfold stA; omega) (by unfold stA; omega) (by unfold stA; omega)]) (fun d d1 d2 => hx _ (by unfold stA; omega) (by unfold stA; omega) (by unfold stA; omega) (by unfold stA; omega) (by unfold stA; omega)) (fun k hk => fx _ (by omega))
theorem FM.ads {ν : Mem} {i s : Nat} {t l : Int32} : FM ν (adsF ν 2 i s t l) := ((FM.u2 (by omega)).tr (FM.u2 (by omega))).tr (FM.u2 (by omega))
theorem item_l {μ ν : Mem} {tx : Nat → Nat} {l p : Nat} (hT : RT μ tx l) (hM : MT ν tx l) (hp4 : μ 104 4 = nI p) (hpl : p < l) (hR : RDr μ ν p) (hp0 : 0 < p) (htx : tx p = 108) : ItemR μ ν tx l p 0 := by
  obtain ⟨N, hm, sz, hN, hU, hZ, hK, hH, hS⟩ := id hR
  have hN2 := hN.pos hp0
  obtain ⟨n1, n2, n3, n4⟩ := id hN
  have ec : nI (tx p) = 108 := by rw [htx]; rfl
  refine item_of (e := nE tx l (nE tx l (nE tx l (p + 1) + 1) + 1)) (c_X3_readItem108 (sz := sz) hT hp4 hpl htx n1 n3 (fun i hi => ⟨(hS i hi).2.1, (hS i hi).2.2.2.1⟩)) (by rw [ec]; exact c_X7_readsItem108 (sz := sz) hM (by omega) n2 n3 (by omega) (fun i hi => ⟨by rw [show 440 * 2 + 70 * i + 8 = 880 + 70 * i + 8 by omega]; exact (hS i hi).2.2.1, (hS i hi).2.2.2.1⟩)) ?_ ?_ ?_ hT
  · simp only [okN, nX, nP_lat (show 0 < 59 by omega), nP_lat (show 0 < 44 by omega), nO]
    generalize nV tx l (p + 1) = i
    generalize nV tx l (nE tx l (p + 1) + 1) = j
    constructor
    · rintro ⟨⟨a1, a2, a3⟩, -, b1, b2, b3, b4, b5, b6, b7⟩
      rw [(hH.1 i (by omega)).2.1] at b6
      exact ⟨⟨by omega, by omega, by omega, by rw [(hH.1 i (by omega)).2.2]; exact b6, b7, by omega, by omega⟩, by omega⟩
    · rintro ⟨⟨a1, a2, a3, b6, b7, a4, a5⟩, a6⟩
      rw [(hH.1 i (by omega)).2.2] at b6
      refine ⟨by omega, by omega, by omega, by omega, fun e => ?_, by omega, by omega, by rw [(hH.1 i (by omega)).2.1]; exact b6, b7⟩
      subst e
      have := (bit_nI _ (hH.1 i (by omega)).1 i (by omega)).mp b6
      rw [hH.2.2 i (by omega)] at this
      exact absurd this (by decide)
  · rintro ⟨-, -, -, -, -, q, -⟩; exact ⟨nE_le (((lat_is (by omega)).mp q).1), by unfold adsF; rw [up2_ne (by omega), up2_ne (by omega), up2_ne (by omega), nm_end], FM.nm.tr FM.ads⟩
  · rintro ⟨h1, -, h2, h3, h4, -, -, -, h5⟩
    have h1' : nP tx l (p + 1) 44 ∧ nP tx l (nE tx l (p + 1) + 1) 44 ∧ nP tx l (nE tx l (nE tx l (p + 1) + 1) + 1) 59 := h1
    have hl1 := h1'.1.1
    have hl2 := h1'.2.1.1
    have hl3 := h1'.2.2.1
    refine ⟨?_, by omega, ?_, fun x hx => ?_, RDr.adds hN hU hZ hK hH hS hp0 (by omega) (by omega) h5⟩
    · rw [add_o (by unfold stA; omega) (by unfold stA; omega) (by unfold stA; omega), rd_p]
    · rw [add_o (by unfold stA; omega) (by unfold stA; omega) (by unfold stA; omega), rd_e]
    · rw [add_o (by unfold stA; omega) (by unfold stA; omega) (by unfold stA; omega), rd_x (by omega) (by omega)]
