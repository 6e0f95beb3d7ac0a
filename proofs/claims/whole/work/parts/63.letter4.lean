theorem api_letter {μ ν : Mem} {D : Nat} (i j k : Int32) (hG : GR μ ν D) (hD : D + 100 < 100000) : API mX6_letter mX7_letter [.int i, .int j, .int k] μ ν (D + 1) := by
  obtain ⟨N, t, hNR, ht, hP, hT, hB⟩ := id hG
  obtain ⟨⟨c0, c0', hN2, hN6, ⟨cl, cl1, cl2, cl3⟩, ⟨cm, cm1, cm2, cm3⟩, c3, ⟨cr, cr1, cr2, cr3⟩⟩, ⟨z, z1, z2, z3⟩, h6, h6', h7, hTK, ⟨hm, hH, hsym⟩, hR⟩ := id hNR.1
  simp only [Nat.zero_add] at z2 h6' h7 hH hR
  have hG' : GR μ ν (D + 1) := hG.net (by omega) (fun _ _ => rfl) (fun _ _ _ => rfl) (fun N t h ht hb => ⟨t, h.eq (fun _ _ _ => rfl) (fun _ _ _ => rfl) (fun _ _ => rfl) (by omega), ht, hb⟩)
  by_cases h : (stnP i N ∧ stnP j N ∧ ¬ i = j) ∧ ¬ k < 1 ∧ ¬ 9 < k
  · obtain ⟨⟨⟨i, hi, rfl⟩, ⟨j, hj, rfl⟩, hne⟩, hk⟩ := h
    have hij : i ≠ j := fun e => hne (by rw [e])
    have ebit : bitF (μ (stA 2 i) 0) (nI j) ↔ bitF (ν 2 (420 + i)) (nI j) := by rw [(hH i hi).2.1, (hH i hi).2.2]
    by_cases hb : bitF (μ (stA 2 i) 0) (nI j)
    · have a1 := (hR i hi).1.1.1
      have a8 := (hR i hi).1.1.2.2.2.2.2.2.2.1
      obtain ⟨w, w1, w2, w3⟩ := (hR i hi).1.2.1
      obtain ⟨s, s1, s2, -⟩ := (hR i hi).1.2.2.2.2.1
      have s1' : ν 2 (440 * 0 + 70 * i + 8) = nI s := by rw [show 440 * 0 + 70 * i + 8 = 70 * i + 8 by omega, ← a8]; exact s1
      have hw : ¬ ν 2 (440 * 0 + 70 * i) = 0 := by rw [show 440 * 0 + 70 * i = 70 * i by omega, ← a1, w1]; exact nI_ne (b := 0) (by omega) (by omega) (by omega)
      rcases Nat.lt_or_ge s 6 with hl | hl
      · obtain ⟨U, V, hU, hV, hf, hg, hGR⟩ := rem_keep hG
        have hNv : ∀ u v, U u → V v → NR u 2 v 0 N t D := fun u v hu hv => NR.mv (NCP.eq (fun x h1 h2 => hf u hu x (by omega) (by omega))) (fun k k1 k2 => (hg v hv).2 k (by omega)) (fun j hj => by rw [(hg v hv).1 2 (by omega) (by omega)]) (Nat.le_refl _) hNR.1
        by_cases h0 : s = 0
        · refine API.of ⟨nI (s + 1), _, _, c_X6_letter0 hU hf c0 hN6 hi hj hij hk hb s1 hl h0, c_X7_letter0 hV hg c0' hN6 hi hj hij hk (ebit.mp hb) s1' hl hw h0, ?_⟩
          rintro u v ⟨u0, hu0, rfl⟩ ⟨v0, hv0, rfl⟩
          subst h0
          have hN0 := hNv u0 v0 hu0 hv0
          refine GR.one (hGR u0 v0 hu0 hv0) ht hN0 hi hN6 (fun x hx => ?_) ?_ (fun x hx => ?_) (fun y hy => ?_) ?_
          · rw [dwF_ne (by omega)]; exact add_o (by omega) (by omega) (by omega)
          · rw [dwF_k (by omega) (by omega), add_o (by omega) (by omega) (by omega)]
          · rw [upA_ne hx, ads_x hx]
          · rw [upA_at, ads_2]; exact (cms_out hy).trans (adF_out (by omega) hy)
          · have R0 := hN0.2.2.2.2.2.2.2 i hi
            have q := RA.add0 (n := 2) (b := 0) (to := nI j) (l := k) (by omega) R0 (by rw [hf u0 hu0 _ (by unfold stA; omega) (by unfold stA; omega)]; exact s1) (by rw [hf u0 hu0 2 (by omega) (by omega)]; exact z1) (by rw [(hg v0 hv0).1 2 (by omega) (by omega), Nat.zero_add]; exact z2) z3 (by omega)
            rw [upA_at, ads_2]
            simp only [Nat.zero_add, Nat.mul_zero] at q ⊢
            exact q
        · refine API.of ⟨nI (s + 1), _, _, c_X6_letter1 hU hf c0 hN6 hi hj hij hk hb s1 hl h0, c_X7_letter1 hV hg c0' hN6 hi hj hij hk (ebit.mp hb) s1' hl hw h0, ?_⟩
          rintro u v ⟨u0, hu0, rfl⟩ ⟨v0, hv0, rfl⟩
          have hN0 := hNv u0 v0 hu0 hv0
          refine GR.one (hGR u0 v0 hu0 hv0) ht hN0 hi hN6 (fun x hx => add_o (by omega) (by omega) (by omega)) ?_ (fun x hx => ads_x hx) (fun y hy => ?_) ?_
          · rw [add_o (by omega) (by omega) (by omega)]
          · rw [ads_2]; exact adF_out hl hy
          · have R0 := hN0.2.2.2.2.2.2.2 i hi
            rw [Nat.zero_add] at R0
            rw [ads_2]
            exact (R0.add1 (by rw [hf u0 hu0 _ (by unfold stA; omega) (by unfold stA; omega)]; exact s1) hl h0).mono (by omega)
      · obtain rfl : s = 6 := by omega
        exact API.same hG' (c_X6_letterF (s := 0) c0 hN6 hi hj hij hk hb s1) (c_X7_letterF (s := 0) c0' hN6 hi hj hij hk (ebit.mp hb) s1')
    · exact API.same hG' (c_X6_letterD (s := 0) c0 hN6 hi hj hij hk hb) (c_X7_letterD (s := 0) c0' hN6 hi hj hij hk (fun q => hb (ebit.mpr q)))
  · exact API.same hG' (c_X6_letterX c0 hN6 h) (c_X7_letterX c0' hN6 (by omega) h)

