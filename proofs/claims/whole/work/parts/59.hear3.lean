/-! hear agrees, whole -/
theorem pairs_nr {μ ν : Mem} {N t D : Nat} {w : Int32} (h : NR μ 2 ν 0 N t D) (hN6 : N ≤ 6) : nI (ouC (ndC μ 2 w) N N) = nI (ouR (ndR (ν 2) w) N) := by
  obtain ⟨hm, hH, hsym⟩ := h.2.2.2.2.2.2.1
  simp only [Nat.zero_add] at hH
  rw [← pairs_eq hN6 (fun i j hi hj => by unfold ndR; rw [(hH i hi).2.2, (hH j hj).2.2]; exact decide_eq_decide.mpr (near_sym hi hj hN6 (hH i hi).1 (hH j hj).1 (hsym i j hi hj)))]
  congr 1
  exact ouC_congr hN6 (fun i j hi hj => by unfold ndC ndR; rw [(hH i hi).2.1, (hH i hi).2.2, (hH j hj).2.1, (hH j hj).2.2])
theorem up2_o10 {μ : Mem} {o x : Nat} {a : Int32} : up2 μ o 0 a x 10 = μ x 10 := by
  by_cases e : x = o
  · subst e; exact up2_k (by omega)
  · rw [up2_ne e]
theorem hear_fin {μ ν : Mem} {N t D i j : Nat} {hm : Nat → Nat} (hG : GR μ ν D) (ht : t ≤ 9999) (h : NR μ 2 ν 0 N t D) (hH : ∀ i, i < N → hm i < 64 ∧ μ (stA 2 i) 0 = nI (hm i) ∧ ν 2 (420 + i) = nI (hm i)) (hsym : ∀ i j, i < N → j < N → (hm i).testBit j = (hm j).testBit i) (hi : i < N) (hj : j < N) (hij : i ≠ j) (hN : N ≤ 6) {u v : Mem} (eu : u = up2 (up2 μ (stA 2 i) 0 (nI (hm i ^^^ 2 ^ j))) (stA 2 j) 0 (nI (hm j ^^^ 2 ^ i))) (ev : v = up2 (up2 ν 2 (420 + i) (nI (hm i ^^^ 2 ^ j))) 2 (420 + j) (nI (hm j ^^^ 2 ^ i))) :
    nI (ouC (ndC u 2 0) N N) = nI (ouR (ndR (v 2) 0) N) ∧ GR u v D := by
  have hR := hear_rel h hH hsym hi hj hij hN
  rw [← eu, ← ev] at hR
  refine ⟨pairs_nr hR hN, hG.net (Nat.le_refl _) (fun x hx => ?_) (fun x hx h2 => ?_) (fun N' t' hN' ht' hB' => ?_)⟩
  · rw [eu, up2_ne (by unfold stA; omega), up2_ne (by unfold stA; omega)]
  · rw [ev, up2_ne h2, up2_ne h2]
  · obtain rfl : N = N' := (nI_eq (by omega) (by have := hN'.1.1.2.2.2.1; omega)).mp (h.1.1.symm.trans hN'.1.1.1)
    obtain rfl : t = t' := (nI_eq (by omega) (by omega)).mp (h.2.2.1.symm.trans hN'.1.2.2.1)
    refine ⟨t, ⟨hR, hN'.2.row ?_⟩, ht, fun x hx => ?_⟩
    · rw [eu, up2_ne (by unfold stA; omega), up2_ne (by unfold stA; omega)]
    · have := hB' x hx
      rw [eu, up2_o10, up2_o10]; exact this
theorem xrF_eq {ν : Mem} {i j a b : Nat} (hi : ν 2 (420 + i) = nI a) (hj : ν 2 (420 + j) = nI b) (hij : i ≠ j) (ha : a < 64) (hb : b < 64) (hi6 : i < 6) (hj6 : j < 6) : xrF ν i j = up2 (up2 ν 2 (420 + i) (nI (a ^^^ 2 ^ j))) 2 (420 + j) (nI (b ^^^ 2 ^ i)) := by
  unfold xrF
  rw [show up2 ν 2 (420 + i) (ν 2 (420 + i) ^^^ (1 <<< (nI j &&& 31))) 2 (420 + j) = ν 2 (420 + j) from up2_k (by omega), hi, hj, (bit_x a ha j hj6).1, (bit_x b hb i hi6).1]
theorem api_hear {μ ν : Mem} {D : Nat} (i j k : Int32) (hG : GR μ ν D) : API mX6_hear mX7_hear [.int i, .int j, .int k] μ ν D := by
  obtain ⟨N, t, hNR, ht, hP, hT, hB⟩ := id hG
  obtain ⟨⟨c0, c0', hN2, hN6, ⟨cl, cl1, cl2, cl3⟩, ⟨cm, cm1, cm2, cm3⟩, c3, ⟨cr, cr1, cr2, cr3⟩⟩, ⟨z, z1, z2, z3⟩, h6, h6', h7, hTK, ⟨hm, hH, hsym⟩, hR⟩ := id hNR.1
  simp only [Nat.zero_add] at z2 h6' h7 hH hR
  by_cases h : (stnP i N ∧ stnP j N ∧ ¬ i = j) ∧ ¬ k < 0 ∧ ¬ 1 < k
  · obtain ⟨⟨⟨i, hi, rfl⟩, ⟨j, hj, rfl⟩, hne⟩, hk⟩ := h
    have hij : i ≠ j := fun e => hne (by rw [e])
    obtain ⟨k, hk1, rfl⟩ := in_of (K := 1) (n := 1) rfl hk
    have ebit : bitF (μ (stA 2 i) 0) (nI j) ↔ bitF (ν 2 (420 + i)) (nI j) := by rw [(hH i hi).2.1, (hH i hi).2.2]
    have tb : bitF (μ (stA 2 i) 0) (nI j) ↔ (hm i).testBit j = true := by rw [(hH i hi).2.1]; exact bit_tb (hH i hi).1 (by omega)
    obtain ⟨U, V, hU, hV, hf, hg, hGR⟩ := rem_keep hG
    have hNv : ∀ u v, U u → V v → NR u 2 v 0 N t D := fun u v hu hv => NR.mv (NCP.eq (fun x h1 h2 => hf u hu x (by omega) (by omega))) (fun k k1 k2 => (hg v hv).2 k (by omega)) (fun j hj => by rw [(hg v hv).1 2 (by omega) (by omega)]) (Nat.le_refl _) hNR.1
    have hHv : ∀ u v, U u → V v → ∀ i, i < N → hm i < 64 ∧ u (stA 2 i) 0 = nI (hm i) ∧ v 2 (420 + i) = nI (hm i) := fun u v hu hv i hi => ⟨(hH i hi).1, by rw [hf u hu _ (by unfold stA; omega) (by unfold stA; omega)]; exact (hH i hi).2.1, by rw [(hg v hv).1 2 (by omega) (by omega)]; exact (hH i hi).2.2⟩
    rcases (show k = 0 ∨ k = 1 by omega) with rfl | rfl
    · by_cases hb : bitF (μ (stA 2 i) 0) (nI j)
      · obtain ⟨-, -, -, -, ⟨si, s1, s2, s3, -⟩, -⟩ := (hR i hi).1
        obtain ⟨-, -, -, -, ⟨sj, t1, t2, t3, -⟩, -⟩ := (hR j hj).1
        have a8 := (hR i hi).1.1.2.2.2.2.2.2.2.1
        have b8 := (hR j hj).1.1.2.2.2.2.2.2.2.1
        have s1' : ν 2 (440 * 0 + 70 * i + 8) = nI si := by rw [show 440 * 0 + 70 * i + 8 = 70 * i + 8 by omega, ← a8]; exact s1
        have t1' : ν 2 (440 * 0 + 70 * j + 8) = nI sj := by rw [show 440 * 0 + 70 * j + 8 = 70 * j + 8 by omega, ← b8]; exact t1
        have eh : (hasP (μ (stA 2 i + 2)) si (nI j) ∨ hasP (μ (stA 2 j + 2)) sj (nI i)) ↔ (hasP (fun k => ν 2 (440 * 0 + 70 * i + 9 + 2 * k)) si (nI j) ∨ hasP (fun k => ν 2 (440 * 0 + 70 * j + 9 + 2 * k)) sj (nI i)) := by
          refine or_congr (exists_congr fun k => ?_) (exists_congr fun k => ?_)
          · refine and_congr_right fun q => ?_
            show _ ↔ ν 2 (440 * 0 + 70 * i + 9 + 2 * k) = nI j
            rw [(s3 k q).1, show 440 * 0 + 70 * i + 9 + 2 * k = 70 * i + 9 + 2 * k by omega]
          · refine and_congr_right fun q => ?_
            show _ ↔ ν 2 (440 * 0 + 70 * j + 9 + 2 * k) = nI i
            rw [(t3 k q).1, show 440 * 0 + 70 * j + 9 + 2 * k = 70 * j + 9 + 2 * k by omega]
        by_cases hh : hasP (μ (stA 2 i + 2)) si (nI j) ∨ hasP (μ (stA 2 j + 2)) sj (nI i)
        · exact API.same hG (c_X6_hearL c0 hN6 hi hj hij s1 s2 t1 t2 hb hh) (c_X7_hearL c0' hN6 hi hj hij s1' s2 t1' t2 (ebit.mp hb) (eh.mp hh))
        · refine ⟨_, _, c_X6_hear0 hU hf c0 hN6 hi hj hij s1 s2 t1 t2 hb hh, c_X7_hear0 hV hg c0' hN6 hi hj hij s1' s2 t1' t2 (ebit.mp hb) (fun q => hh (eh.mpr q)), ?_⟩
          rintro r u s v ⟨u0, hu0, hu, hr⟩ ⟨v0, hv0, hv, hs⟩
          rw [hr, hs]
          have H := hHv u0 v0 hu0 hv0
          refine hear_fin (hGR u0 v0 hu0 hv0) ht (hNv u0 v0 hu0 hv0) H hsym hi hj hij hN6 ?_ (hv.trans (xrF_eq (H i hi).2.2 (H j hj).2.2 hij (H i hi).1 (H j hj).1 (by omega) (by omega)))
          rw [hu]; unfold offF
          rw [(H i hi).2.1, (H j hj).2.1, (bit_x _ (H i hi).1 j (by omega)).2.2.1 (tb.mp hb), (bit_x _ (H j hj).1 i (by omega)).2.2.1 ((hsym j i hj hi).trans (tb.mp hb))]
      · exact API.same hG (c_X6_hearS0 c0 hN6 hi hj hij hb) (c_X7_hearS0 c0' hN6 hi hj hij (fun q => hb (ebit.mpr q)))
    · by_cases hb : bitF (μ (stA 2 i) 0) (nI j)
      · exact API.same hG (c_X6_hearS1 c0 hN6 hi hj hij hb) (c_X7_hearS1 c0' hN6 hi hj hij (ebit.mp hb))
      · have hbf : (hm i).testBit j = false := by
          rcases hq : (hm i).testBit j with _ | _
          · rfl
          · exact absurd (tb.mpr hq) hb
        refine ⟨_, _, c_X6_hear1 hU hf c0 hN6 hi hj hij hb, c_X7_hear1 hV hg c0' hN6 hi hj hij (fun q => hb (ebit.mpr q)), ?_⟩
        rintro r u s v ⟨u0, hu0, hu, hr⟩ ⟨v0, hv0, hv, hs⟩
        rw [hr, hs]
        have H := hHv u0 v0 hu0 hv0
        refine hear_fin (hGR u0 v0 hu0 hv0) ht (hNv u0 v0 hu0 hv0) H hsym hi hj hij hN6 ?_ (hv.trans (xrF_eq (H i hi).2.2 (H j hj).2.2 hij (H i hi).1 (H j hj).1 (by omega) (by omega)))
        rw [hu]; unfold jonF
        rw [(H i hi).2.1, (H j hj).2.1, (bit_x _ (H i hi).1 j (by omega)).2.1 hbf, (bit_x _ (H j hj).1 i (by omega)).2.1 ((hsym j i hj hi).trans hbf)]
  · exact API.same hG (c_X6_hearX c0 hN6 h) (c_X7_hearX c0' hN6 (by omega) h)

