theorem sdF1_0 {μ : Mem} {n x : Nat} : sdF1 μ n x x 0 = μ x 0 := by
  unfold sdF1; split
  · rw [up2_k (by decide), snd_k (by decide) (by decide)]
  · rw [snd_k (by decide) (by decide)]
theorem saM_hears {μ : Mem} {n i : Nat} : ∀ {k : Nat}, True → saM μ n k (stA n i) 0 = μ (stA n i) 0
  | 0, _ => rfl
  | k + 1, _ => by
    show sdF1 (saM μ n k) n (stA n k) (stA n i) 0 = _
    by_cases e : i = k
    · subst e; rw [sdF1_0, saM_hears trivial]
    · rw [sdF1_ne (by unfold stA; omega), saM_hears trivial]
/-- gets where nothing is awaited: no letter goes, whatever its number -/
theorem gts_jw {ν : Mem} {f : Nat → Int32} {b i m n t h x : Nat} {sl sd : Int32} (hi : i < 6) (hw : f (b + 70 * i + 26) ≤ 0) (hh : h ≤ 6) (hx : x < b + 70 * i ∨ b + 70 * i + 70 ≤ x) (h2 : x ≠ b + 429 + t + 1) : gtsF ν f b i m n t h sl sd x = f x := by
  have n2 : ¬ f (b + 70 * i + 26) = 2 := fun e => absurd hw (by rw [e]; decide)
  unfold gtsF
  rw [if_neg (fun q => q.1.1 hw)]
  unfold gotF
  split
  · rfl
  · split
    · show upd f (b + 70 * i + 4) (f (b + 70 * i + 4) + 1) x = f x
      rw [upd_ne (by omega)]
    · split
      · rfl
      · split
        · have e : ∀ j sl w wd p L, (tkoF f b i j n t sl w wd p L).2 x = f x := by
            intro j sl w wd p L
            have := tko_j (f := f) (b := b) (i := i) (j := j) (n := 0) (t := t) (x := x) (sl := sl) (w := w) (wd := wd) (p := p) (L := L) hi (by decide) hx h2
            have e4 : ∀ n' sl L, tk4F f b i n' t sl L = (0, f) := fun n' sl L => by unfold tk4F; exact if_neg (fun q => n2 q.2)
            unfold tkoF at this ⊢
            rw [e4] at this ⊢
            exact this
          exact e _ _ _ _ _ _
        · exact ohs_j hh hx
theorem slot_rel {μ ν : Mem} {n b N t D : Nat} (h : NR μ n ν b N t D) (ht : t < 1000000) (hD : D < 100000) : (∀ k, k < N → PreL (lsM (sltM μ n N) n k) n k) ∧ PreGo ν b N ∧ NR (sltF μ n N) n (gosF ν b N) b N (t + 1) (D + 1) := by
  obtain ⟨⟨c0, c0', hN2, hN, ⟨l, cl, cl', cl1, cl2⟩, ⟨m, cm, cm', cm1, cm2⟩, c3, ⟨r, cr, cr', cr1⟩⟩, ⟨z, z1, z2, z3⟩, h6, h6', h7, hT, ⟨hm, hH, hsym⟩, hR⟩ := h
  have esl : ν 2 (b + 426) + 1 = nI (t + 1) := by rw [h6', nI_1]
  obtain ⟨s1, s2, s3⟩ := send_all (as := ν 0 5) ht hN h6 h7 c3 (fun i hi => by rw [(hH i hi).2.1, (hH i hi).2.2]) hR N (Nat.le_refl N)
  have hκ : kap (fun i => syW (ν 2) b i (nI (t + 1)) (ν 0 5)) N < 64 := kap_lt N hN
  -- the class's memory behind the sending
  have eMn : ∀ k, k ≠ 6 → k ≠ 7 → sltM μ n N n k = μ n k := by
    intro k k6 k7; unfold sltM; rw [up2_k k7, up2_k k6, saM_n (by omega)]
  have eMx : ∀ x, x ≠ n → sltM μ n N x = saM μ n N x := by
    intro x hx; unfold sltM; rw [up2_ne hx, up2_ne hx]
  have eA : ∀ x, x < 5 → syA ν b (nI (t + 1)) N x = ν x := fun x hx => syA_ne hx
  have eF : ∀ j, (j < b ∨ b + 420 ≤ j) → sdM (ν 2) b (nI (t + 1)) (ν 0 5) N j = ν 2 j := fun j hj => sdM_j N (by omega)
  have key := listen_all (μ := sltM μ n N) (ν := syA ν b (nI (t + 1)) N) (n := n) (b := b) (N := N) (t := t) (D := D) (z := z) (l := l) (mm := m) (rr := r) (κ := kap (fun i => syW (ν 2) b i (nI (t + 1)) (ν 0 5)) N) (f := sdM (ν 2) b (nI (t + 1)) (ν 0 5) N) (hm := hm) ht hD hN
    (by rw [eMn _ (by decide) (by decide)]; exact z1) (by rw [eF _ (by omega)]; exact z2) z3 (by rw [eMn _ (by decide) (by decide)]; exact cl) (by rw [eA _ (by decide)]; exact cl') cl1 cl2 (by rw [eMn _ (by decide) (by decide)]; exact cm) (by rw [eA _ (by decide)]; exact cm') cm1 cm2 (by rw [eMn _ (by decide) (by decide)]; exact cr) (by rw [eA _ (by decide)]; exact cr') cr1
    (by unfold sltM; rw [up2_k (by decide), up2_at, saM_n (by omega), h6, nI_1]) (by unfold sltM; rw [up2_at]; exact s2) hκ
    (fun i hi => ⟨(hH i hi).1, by
      have : sltM μ n N (stA n i) 0 = μ (stA n i) 0 := by
        rw [eMx _ (by unfold stA; omega)]
        exact saM_hears trivial
      rw [this]; exact (hH i hi).2.1, by rw [eF _ (by omega)]; exact (hH i hi).2.2⟩)
    (fun i => by
      rw [kap_bit]
      constructor
      · rintro ⟨a, q⟩; exact ⟨a, by rw [syA_5 a]; exact q⟩
      · rintro ⟨a, q⟩; rw [syA_5 a] at q; exact ⟨a, q⟩)
    (fun k k1 k2 => by
      rw [eMx _ (by omega), saM_n (by omega), eF _ (by omega)]; exact hT k k1 k2)
    (fun i hi => by
      rw [syA_5 hi, syA_6 hi, syA_7 hi, syA_8 hi]
      exact MR.fr (fun x h1 _ => eMx x (by unfold stA at h1; omega)) (fun _ _ _ => rfl) (s1 i hi)) N (Nat.le_refl N)
  obtain ⟨k0, k1, k2, k3, k4⟩ := key
  have egos : gosR ν b N = upd (upd (gtM (syA ν b (nI (t + 1)) N) (sdM (ν 2) b (nI (t + 1)) (ν 0 5) N) b (nI (t + 1)) (nI (kap (fun i => syW (ν 2) b i (nI (t + 1)) (ν 0 5)) N)) N) (b + 426) (nI (t + 1))) (b + 427) (nI (kap (fun i => syW (ν 2) b i (nI (t + 1)) (ν 0 5)) N)) := by
    unfold gosR; rw [esl, s3]
  have eg2 : gosF ν b N 2 = gosR ν b N := by unfold gosF; rw [upA_at]
  have eg0 : gosF ν b N 0 = ν 0 := by unfold gosF; rw [upA_ne (by decide), syA_ne (by decide)]
  have eR : ∀ j, j ≠ b + 426 → j ≠ b + 427 → gosR ν b N j = gtM (syA ν b (nI (t + 1)) N) (sdM (ν 2) b (nI (t + 1)) (ν 0 5) N) b (nI (t + 1)) (nI (kap (fun i => syW (ν 2) b i (nI (t + 1)) (ν 0 5)) N)) N j := by
    intro j j1 j2; rw [egos, upd_ne j2, upd_ne j1]
  have eRf : ∀ j, (b + 420 ≤ j ∧ j < b + 430) → j ≠ b + 426 → j ≠ b + 427 → gosR ν b N j = ν 2 j := by
    intro j hj j1 j2; rw [eR j j1 j2, k3 j (by omega), eF j (by omega)]
  have eS : ∀ k, k ≠ 6 → k ≠ 7 → sltF μ n N n k = μ n k := by
    intro k k6 k7; unfold sltF; rw [lsM_n (by omega), eMn k k6 k7]
  refine ⟨fun k hk => (k0 k hk).1, fun k hk => ?_, ⟨?_, ?_, hN2, hN, ⟨l, ?_, ?_, cl1, cl2⟩, ⟨m, ?_, ?_, cm1, cm2⟩, ?_, ⟨r, ?_, ?_, cr1⟩⟩, ⟨z, ?_, ?_, z3⟩, ?_, ?_, ?_, ?_, ⟨hm, fun i hi => ⟨(hH i hi).1, ?_, ?_⟩, hsym⟩, fun i hi => ?_⟩
  · rw [esl, s3]; exact (k0 k hk).2
  · rw [eS _ (by decide) (by decide)]; exact c0
  · rw [eg0]; exact c0'
  · rw [eS _ (by decide) (by decide)]; exact cl
  · rw [eg0]; exact cl'
  · rw [eS _ (by decide) (by decide)]; exact cm
  · rw [eg0]; exact cm'
  · rw [eS _ (by decide) (by decide), eg0]; exact c3
  · rw [eS _ (by decide) (by decide)]; exact cr
  · rw [eg0]; exact cr'
  · rw [eS _ (by decide) (by decide)]; exact z1
  · rw [eg2, eRf _ (by omega) (by omega) (by omega)]; exact z2
  · unfold sltF; rw [lsM_n (by omega)]; unfold sltM; rw [up2_k (by decide), up2_at, saM_n (by omega), h6, nI_1]
  · rw [eg2, egos, upd_ne (by omega), upd_at]
  · unfold sltF; rw [lsM_n (by omega)]; unfold sltM; rw [up2_at, eg2, egos, upd_at]; exact s2
  · intro k q1 q2
    rw [eg2, eR _ (by omega) (by omega)]
    exact k2 k q1 q2
  · show lsM (sltM μ n N) n N (stA n i) 0 = _
    rw [(k4 i hi).2, eMx _ (by unfold stA; omega), saM_hears trivial]
    exact (hH i hi).2.1
  · rw [eg2, eRf _ (by omega) (by omega) (by omega)]; exact (hH i hi).2.2
  · rw [eg2]
    exact RA.frame (fun _ _ _ => rfl) (fun j h1 h2 => eR j (by omega) (by omega)) (k1 i hi)
noncomputable def gosN (ν : Mem) (b N : Nat) : Nat → Mem
  | 0 => ν
  | k + 1 => gosF (gosN ν b N k) b N
theorem pass_rel {μ ν : Mem} {n b N t D : Nat} (h : NR μ n ν b N t D) : ∀ q, t + q < 1000000 → D + q < 100000 → NR (pasF μ n N q) n (gosN ν b N q) b N (t + q) (D + q)
  | 0, _, _ => h
  | q + 1, h1, h2 => (slot_rel (pass_rel h q (by omega) (by omega)) (by omega) (by omega)).2.2
theorem pass_pre {μ ν : Mem} {n b N t D q : Nat} (h : NR μ n ν b N t D) (h1 : t + q < 1000000) (h2 : D + q < 100000) : (∀ j, j < q → ∀ k, k < N → PreL (lsM (sltM (pasF μ n N j) n N) n k) n k) ∧ ∀ j, j < q → PreGo (gosN ν b N j) b N :=
  ⟨fun j hj => (slot_rel (pass_rel h j (by omega) (by omega)) (by omega) (by omega)).1, fun j hj => (slot_rel (pass_rel h j (by omega) (by omega)) (by omega) (by omega)).2.1⟩
/-- what a slot leaves of the reference's other places -/
theorem gtM_j {ν : Mem} {f : Nat → Int32} {b N : Nat} {sl sd : Int32} (hN : N ≤ 6) (hp : ∀ k, k < N → PreG ν (gtM ν f b sl sd k) b k sd) : ∀ k, k ≤ N → ∀ j, (j < b ∨ b + 440 ≤ j) → gtM ν f b sl sd k j = f j
  | 0, _, _, _ => rfl
  | k + 1, hk, j, hj => by
    show gt1 ν (gtM ν f b sl sd k) b k sl sd j = f j
    obtain ⟨-, hs, -, -, -, ⟨t, t1, t2⟩, ⟨hd, q1, q2⟩⟩ := hp k (by omega)
    rw [← gtM_j hN hp k (by omega) j hj]
    unfold gt1
    by_cases hw : gtM ν f b sl sd k (b + 70 * k + 26) ≤ 0
    · exact gts_jw (by omega) hw (by rw [q1, nI_clamp (by omega)]; exact q2) (by omega) (by rw [t1, nI_clamp (by omega)]; omega)
    · obtain ⟨s, s1, s2⟩ := hs hw
      exact gts_j (by omega) (by rw [s2, nI_clamp (by omega)]; omega) (by rw [q1, nI_clamp (by omega)]; exact q2) (by omega) (by rw [t1, nI_clamp (by omega)]; omega)
