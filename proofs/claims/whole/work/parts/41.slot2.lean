/-! one slot, on both sides -/
theorem lsM_x {μ : Mem} {n x : Nat} : ∀ k, (x < n + 1 ∨ x = n + 2 ∨ stA n k ≤ x) → lsM μ n k x = μ x
  | 0, _ => rfl
  | k + 1, h => by
    show lsn1 (lsM μ n k) n k x = μ x
    unfold stA at h
    unfold lsn1
    rw [lsnF_ne (by unfold stA; omega), lsM_x k (by unfold stA; omega)]
theorem lsn_0 {μ : Mem} {n i m s t h : Nat} : lsnF μ n i m s t h (stA n i) 0 = μ (stA n i) 0 := by
  have hg : ∀ j, (gfF μ n i j h).2 (stA n i) 0 = μ (stA n i) 0 := fun j => gfF_k (by decide) (by decide)
  unfold lsnF
  split
  · unfold awtF; split
    · exact up2_k (by decide)
    · split
      · exact up2_k (by decide)
      · rfl
  · split
    · split
      · rw [dwF_k (by decide) (by decide), fl_0, up2_k (by decide)]
      · exact up2_k (by decide)
    · split
      · split
        · rw [dwF_k (by decide) (by decide), fl_0]
        · rfl
      · split
        · rw [dwF_k (by decide) (by decide), cls_k (by decide) (by decide) (by decide)]
          unfold tsF
          rw [up2_k (by decide), up2_ne (by unfold stA; omega), hg]
        · split
          · rw [dwF_k (by decide) (by decide), fl_0, hg]
          · exact hg _
theorem OUr.fr {μ μ' : Mem} {q : Nat} {w wh wd p : Int32} (h : μ' q = μ q) (hU : OUr μ q w wh wd p) : OUr μ' q w wh wd p := by
  unfold OUr at hU ⊢; rw [h]; exact hU
set_option maxHeartbeats 2000000 in
theorem listen_all {μ ν : Mem} {n b N t D z l mm rr κ : Nat} {f : Nat → Int32} {hm : Nat → Nat} (ht : t < 1000000) (hD : D < 100000) (hN : N ≤ 6) (hz : μ n 5 = nI z) (hz2 : f (b + 428) = nI z) (hz3 : z ≤ 9999)
    (hL : μ n 1 = nI l) (hL' : ν 0 3 = nI l) (hl1 : 1 ≤ l) (hl2 : l ≤ 64) (hM : μ n 2 = nI mm) (hM' : ν 0 4 = nI mm) (hm1 : 1 ≤ mm) (hm2 : mm ≤ 64) (hR : μ n 4 = nI rr) (hR' : ν 0 6 = nI rr) (hr : rr ≤ 7)
    (h6 : μ n 6 = nI (t + 1)) (h7 : μ n 7 = nI κ) (hκ : κ < 64) (hH : ∀ i, i < N → hm i < 64 ∧ μ (stA n i) 0 = nI (hm i) ∧ f (b + 420 + i) = nI (hm i)) (hbit : ∀ i, κ.testBit i = true ↔ (i < N ∧ ¬ ν 5 i = 0)) (hT : TKr μ n f b)
    (hMR : ∀ i, i < N → MR μ (stA n i) f (b + 70 * i) t D (ν 5 i) (ν 6 i) (ν 7 i) (ν 8 i)) :
    ∀ k, k ≤ N → (∀ i, i < k → PreL (lsM μ n i) n i ∧ PreG ν (gtM ν f b (nI (t + 1)) (nI κ) i) b i (nI κ)) ∧ (∀ i, i < k → RA (lsM μ n k) (stA n i) (gtM ν f b (nI (t + 1)) (nI κ) k) (b + 70 * i) (t + 1) (D + 1)) ∧ TKr (lsM μ n k) n (gtM ν f b (nI (t + 1)) (nI κ) k) b ∧ (∀ j, (j < b ∨ (b + 70 * k ≤ j ∧ j < b + 430) ∨ b + 438 ≤ j) → gtM ν f b (nI (t + 1)) (nI κ) k j = f j) ∧ (∀ i, i < N → OUr (lsM μ n k) (stA n i + 7) (ν 5 i) (ν 6 i) (ν 7 i) (ν 8 i) ∧ lsM μ n k (stA n i) 0 = μ (stA n i) 0) := by
  intro k
  induction k with
  | zero => intro _; exact ⟨fun i hi => by omega, fun i hi => by omega, hT, fun _ _ => rfl, fun i hi => ⟨(hMR i hi).2.2.2.2, rfl⟩⟩
  | succ k ih =>
    intro hk
    obtain ⟨ih0, ih1, ih2, ih3, ih4⟩ := ih (by omega)
    have eM : ∀ x, (x < n + 1 ∨ stA n k ≤ x) → lsM μ n k x = μ x := fun x hx => lsM_x k (by omega)
    have eF : ∀ j, b + 70 * k ≤ j → j < b + 430 → gtM ν f b (nI (t + 1)) (nI κ) k j = f j := fun j h1 h2 => ih3 j (Or.inr (Or.inl ⟨h1, h2⟩))
    have hst : n + 1 < stA n k := by unfold stA; omega
    have hmr : MR (lsM μ n k) (stA n k) (gtM ν f b (nI (t + 1)) (nI κ) k) (b + 70 * k) t D (ν 5 k) (ν 6 k) (ν 7 k) (ν 8 k) := MR.fr (fun x h1 _ => eM x (Or.inr h1)) (fun j h1 h2 => eF j h1 (by omega)) (hMR k (by omega))
    obtain ⟨hS, hO, hP, hA, hU⟩ := hmr
    obtain ⟨g1, g2, g3⟩ := hH k (by omega)
    have e7 : lsM μ n k n 7 = nI κ := by rw [eM _ (by omega)]; exact h7
    have em : lsM μ n k n 7 &&& lsM μ n k (stA n k) 0 = nI (κ &&& hm k) := by rw [e7, (ih4 k (by omega)).2, g2]; exact (and_nI κ hκ (hm k) g1).1
    have em2 : gtM ν f b (nI (t + 1)) (nI κ) k (b + 420 + k) &&& nI κ = nI (κ &&& hm k) := by rw [eF _ (by omega) (by omega), g3, Int32.and_comm]; exact (and_nI κ hκ (hm k) g1).1
    have hml : κ &&& hm k < 64 := (and_nI κ hκ (hm k) g1).2
    -- the sender that is heard
    have hlow : ¬ κ &&& hm k = 0 → (lowF (nI (κ &&& hm k))).toNatClampNeg < N ∧ ¬ ν 5 (lowF (nI (κ &&& hm k))).toNatClampNeg = 0 := by
      intro q
      rcases low_bit _ hml with q0 | ⟨q1, q2⟩
      · exact absurd q0 q
      · rw [Nat.testBit_and, Bool.and_eq_true] at q1
        exact (hbit _).mp q1.1
    have hsb : (nI κ >>> (nI k &&& 31) &&& 1 = 1) ↔ ¬ ν 5 k = 0 := by
      rw [bit_nI κ hκ k (by omega), hbit k]
      exact ⟨fun q => q.2, fun q => ⟨by omega, q⟩⟩
    have hw7 : lsM μ n k (stA n k + 7) 0 = ν 5 k := hU.1
    obtain ⟨s0, z1, z2⟩ : ∃ s0, s0 < 6 ∧ (lsM μ n k (stA n k + 1) 0).toNatClampNeg - 1 = s0 := by
      obtain ⟨-, -, -, -, ⟨s, s1, s2, -⟩, -⟩ := hS
      exact ⟨s - 1, by omega, by rw [s1, nI_clamp (by omega)]⟩
    have hsz : ∀ (P : ¬ lsM μ n k (stA n k + 1) 0 = 0), lsM μ n k (stA n k + 1) 0 = nI (s0 + 1) := by
      intro P
      obtain ⟨-, -, -, -, ⟨s, s1, s2, -⟩, -⟩ := hS
      rw [s1, nI_clamp (by omega)] at z2
      have : s ≠ 0 := fun e => P (by rw [s1, e]; rfl)
      rw [s1, ← z2]; congr 1; omega
    have hne : ¬ lsM μ n k (stA n k) 9 = 0 → ¬ lsM μ n k (stA n k + 1) 0 = 0 := by
      intro q e
      obtain ⟨s, s1, s2⟩ := hS.size q
      rw [s2] at e
      exact nI_ne0 (by omega) (by omega) e
    obtain ⟨t0, t1, t2⟩ := hS.2.2.1
    obtain ⟨hd, q1, q2, -⟩ := hS.2.2.2.2.2.1
    obtain ⟨w, w1, w2, w3⟩ := hS.2.1
    have a1 := hS.1.1
    have a2 := hS.1.2.1
    have a8 := hS.1.2.2.2.2.2.2.2.1
    have a10 := hS.1.2.2.2.2.2.2.2.2.2.1
    have el : lsn1 (lsM μ n k) n k = lsnF (lsM μ n k) n k (κ &&& hm k) s0 t0 hd := by
      unfold lsn1; rw [em, z2, t1, q1, nI_clamp (by omega), nI_clamp (by omega), nI_clamp (by omega)]
    have eg : gt1 ν (gtM ν f b (nI (t + 1)) (nI κ) k) b k (nI (t + 1)) (nI κ) = gtsF ν (gtM ν f b (nI (t + 1)) (nI κ) k) b k (κ &&& hm k) s0 t0 hd (nI (t + 1)) (nI κ) := by
      unfold gt1; rw [em2, ← a8, z2, ← a2, t1, ← a10, q1, nI_clamp (by omega), nI_clamp (by omega), nI_clamp (by omega)]
    have hJ : lsM μ n k (stA n k + 7) 0 = 0 → ¬ κ &&& hm k = 0 → (lowF (nI (κ &&& hm k))).toNatClampNeg ≠ k ∧ OUr (lsM μ n k) (stA n (lowF (nI (κ &&& hm k))).toNatClampNeg + 7) (ν 5 (lowF (nI (κ &&& hm k))).toNatClampNeg) (ν 6 (lowF (nI (κ &&& hm k))).toNatClampNeg) (ν 7 (lowF (nI (κ &&& hm k))).toNatClampNeg) (ν 8 (lowF (nI (κ &&& hm k))).toNatClampNeg) ∧ ¬ ν 5 (lowF (nI (κ &&& hm k))).toNatClampNeg = 0 := by
      intro e0 e1
      obtain ⟨l1, l2⟩ := hlow e1
      exact ⟨fun e => l2 (by rw [e, ← hw7]; exact e0), (ih4 _ l1).1, l2⟩
    have key := listen_rel (μ := lsM μ n k) (ν := ν) (n := n) (i := k) (b := b) (D := D) (z := z) (s := s0) (l := l) (mm := mm) (rr := rr) (t := t) (h := hd) (m := κ &&& hm k) (t0 := t0) (f := gtM ν f b (nI (t + 1)) (nI κ) k) (sd := nI κ) (by omega) hst (by rw [eM _ (by omega)]; exact hz) (by rw [eF _ (by omega) (by omega)]; exact hz2) hz3 hD ht (by rw [eM _ (by omega)]; exact hL) hL' hl1 hl2 (by rw [eM _ (by omega)]; exact hM) hM' hm1 hm2 (by rw [eM _ (by omega)]; exact hR) hR' hr (by rw [eM _ (by omega)]; exact h6) hS hO hP (hw7.symm ▸ hA) (by rw [hw7]; exact hsb) z1 (fun q => hsz (hne q)) t1 t2 q1 q2 hJ ih2
    have hk1 : lsM μ n (k + 1) = lsnF (lsM μ n k) n k (κ &&& hm k) s0 t0 hd := el
    have hk2 : gtM ν f b (nI (t + 1)) (nI κ) (k + 1) = gtsF ν (gtM ν f b (nI (t + 1)) (nI κ) k) b k (κ &&& hm k) s0 t0 hd (nI (t + 1)) (nI κ) := eg
    refine ⟨fun i hi => ?_, fun i hi => ?_, ?_, fun j hj => ?_, fun i hi => ?_⟩
    · by_cases e : i = k
      · subst e
        refine ⟨⟨⟨_, hml, em, fun e0 => ?_⟩, fun q => ⟨s0, z1, hsz (hne q)⟩, ⟨t0, t1, by omega⟩, ⟨hd, q1, q2⟩⟩, ⟨_, hml, em2, fun e1 _ => ?_⟩, fun q => ⟨s0, z1, ?_⟩, ?_, ?_, ?_, ⟨t0, by rw [← a2]; exact t1, by omega⟩, ⟨hd, by rw [← a10]; exact q1, q2⟩⟩
        · by_cases e1 : κ &&& hm i = 0
          · exact Or.inr e1
          · exact Or.inl (hJ e0 e1).1
        · obtain ⟨l1, l2⟩ := hlow e1
          rcases (ih4 _ l1).1.2.2.2.2 with q | q | q | q | q
          · exact absurd q l2
          · exact Or.inl q
          · exact Or.inr (Or.inl q)
          · exact Or.inr (Or.inr (Or.inl q))
          · exact Or.inr (Or.inr (Or.inr q))
        · rw [← a8]
          refine hsz ?_
          rcases hA with ⟨_, hA⟩ | ⟨_, _, _, _, _, hA⟩ | ⟨_, _, _, _, _, hA⟩ | ⟨_, _, hA⟩
          · refine hne ?_
            rcases hA with hA | hA | hA
            · exact absurd (by rw [hA.2]; decide) q
            · rw [hA.1]; decide
            · rw [hA.1]; decide
          · exact hA
          · exact hA
          · exact absurd (by rw [hA]; decide) q
        · rw [hL']; exact nI_ne0 (by omega) (by omega)
        · rw [hM']; exact nI_ne0 (by omega) (by omega)
        · rw [← a1, w1, show (2 : Int32) = nI 2 from rfl, pk_mul]; exact nI_ne0 (by omega) (by omega)
      · exact ih0 i (by omega)
    · rw [hk1, hk2]
      by_cases e : i = k
      · subst e; exact key.1
      · refine RA.frame ?_ ?_ (ih1 i (by omega))
        · intro x h1 h2; rw [lsnF_ne]; unfold stA at h1 h2 ⊢; omega
        · intro j h1 h2; exact gts_j (by omega) z1 q2 (by omega) (by omega)
    · rw [hk1, hk2]; exact key.2
    · rw [hk2, gts_j (by omega) z1 q2 (by omega) (by omega)]
      exact ih3 j (by omega)
    · rw [hk1]
      refine ⟨OUr.fr ?_ (ih4 i hi).1, ?_⟩
      · rw [lsnF_ne]; unfold stA; omega
      · by_cases e : i = k
        · subst e
          rw [← (ih4 i hi).2]
          exact lsn_0
        · rw [lsnF_ne (by unfold stA; omega)]; exact (ih4 i hi).2
