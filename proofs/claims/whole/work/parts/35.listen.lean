/-! listen and gets, together -/
def OUr (μ : Mem) (q : Nat) (w wh wd p : Int32) : Prop := μ q 0 = w ∧ (¬ w = 0 → μ q 1 = wh) ∧ ((w = 1 ∨ w = 2 ∨ w = 3) → μ q 2 = wd) ∧ (w = 3 → μ q 3 = p) ∧ (w = 0 ∨ w = 1 ∨ w = 2 ∨ w = 3 ∨ w = 4)
def AWm (μ : Mem) (o : Nat) (f : Nat → Int32) (c t : Nat) (w : Int32) : Prop :=
  (w = 0 ∧ AWr μ o f c (t + 1)) ∨ (w = 1 ∧ μ o 9 = 0 ∧ μ o 10 = 0 ∧ f (c + 26) = 1 ∧ f (c + 27) = nI (t + 2) ∧ ¬ μ (o + 1) 0 = 0) ∨ (w = 3 ∧ μ o 9 = 0 ∧ μ o 10 = 0 ∧ f (c + 26) = 2 ∧ f (c + 27) = nI (t + 2) ∧ ¬ μ (o + 1) 0 = 0) ∨ ((w = 2 ∨ w = 4 ∨ (w = 3 ∧ μ o 10 = 1)) ∧ μ o 9 = 0 ∧ f (c + 26) = 0)
def TKr (μ : Mem) (n : Nat) (f : Nat → Int32) (b : Nat) : Prop := ∀ k, 1 ≤ k → k ≤ 9 → μ (n + 1) k = f (b + 429 + k)
theorem mor_eq {μ : Mem} {q : Nat} {w wh wd p : Int32} (h : OUr μ q w wh wd p) : morF (μ q 0) (μ q 2) (μ q 3) = morF w wd p := by
  obtain ⟨h1, h2, h3, h4, h5⟩ := h
  rw [h1]
  rcases h5 with e | e | e | e | e <;> subst e
  · simp [morF]
  · rw [h3 (by simp)]; simp [morF]
  · rw [h3 (by simp)]; simp [morF]
  · rw [h3 (by simp), h4 rfl]
  · simp [morF]
/-- what goes on behind a hearing that did not bring what was awaited -/
theorem cl_fin {μ μ1 ν : Mem} {n i b D z s l mm rr t : Nat} {f f1 : Nat → Int32} (hi : i < 6) (hn : n + 1 < stA n i) (hz : μ1 n 5 = nI z) (hz2 : f1 (b + 428) = nI z) (hz3 : z ≤ 9999) (hD : D < 100000) (hL : μ n 1 = nI l) (hL' : ν 0 3 = nI l) (hl1 : 1 ≤ l) (hl2 : l ≤ 64) (hM : μ n 2 = nI mm) (hM' : ν 0 4 = nI mm) (hm1 : 1 ≤ mm) (hm2 : mm ≤ 64) (hR : μ n 4 = nI rr) (hR' : ν 0 6 = nI rr) (hr : rr ≤ 7)
    (hH : HR μ1 (stA n i) f1 (b + 70 * i) t D) (hsz : ¬ μ1 (stA n i) 9 = 0 → μ1 (stA n i + 1) 0 = nI (s + 1) ∧ s < 6) (e26 : f1 (b + 70 * i + 26) = f (b + 70 * i + 26)) (e27 : f1 (b + 70 * i + 27) = f (b + 70 * i + 27)) :
    RA (if ¬ μ1 (stA n i) 9 = 0 then dwF (flF μ1 (stA n i) s (μ n 1) (μ n 2) (μ n 4)) n i else μ1) (stA n i) (if (¬ f (b + 70 * i + 26) ≤ 0 ∧ f (b + 70 * i + 27) = nI (t + 1)) ∧ (0 : Int32) = 0 then falF f1 b i s (ν 0 3) (ν 0 4) (ν 0 6) else f1) (b + 70 * i) (t + 1) (D + 1) := by
  have h := fin_rel (L := μ n 1) (M := μ n 2) (R := μ n 4) hi hn hz hz2 hz3 hD hL hl1 hl2 hM hm1 hm2 hR hr hH hsz
  rw [hL', hM', hR', ← hL, ← hM, ← hR, ← e26, ← e27]
  simp only [and_true]
  exact h
theorem tak_1 {μ : Mem} {o g : Nat} {s fr : Int32} (h : μ g 0 = 1) : takF μ o s fr g = (0, if ¬ s ≤ μ o 4 then putF μ (o + 6) 2 fr (μ g 2) 0 else μ) := by
  unfold takF
  by_cases e : s ≤ μ o 4
  · simp [h, e]
  · simp [h, e, -Int32.not_le]
theorem tak_2 {μ : Mem} {o g : Nat} {s fr : Int32} (h : μ g 0 = 2) : takF μ o s fr g = (0, if μ o 9 = 2 then up2 (up2 μ o 9 0) o 10 1 else μ) := by
  unfold takF
  by_cases e : μ o 9 = 2 <;> simp [h, e]
theorem tak_3 {μ : Mem} {o g : Nat} {s fr : Int32} (h : μ g 0 = 3) : takF μ o s fr g = (0, tpF μ o s fr g) := by
  unfold takF; simp [h]
theorem tak_4 {μ : Mem} {o g : Nat} {s fr : Int32} (h : μ g 0 = 4) : takF μ o s fr g = if μ o 9 = 4 then (1, up2 μ o 9 0) else (0, μ) := by
  unfold takF; simp [h]
theorem ts_took {μ : Mem} {n x t k : Nat} (hx : x ≠ n + 1) : tsF μ n x t (n + 1) k = if k = t + 1 then μ (n + 1) (t + 1) + 1 else μ (n + 1) k := by
  unfold tsF; rw [up2_ne (Ne.symm hx)]; simp [up2_ap]
theorem snt_took {f : Nat → Int32} {b i s t k : Nat} {L : Int32} (hs : s < 6) (hi : i < 6) : sntF f b i s t L (b + 429 + k) = if k = t + 1 then f (b + 429 + (t + 1)) + 1 else f (b + 429 + k) := by
  unfold sntF
  rw [ovs_j hs (by unfold offK; omega), upd_ap, upd_ap]
  by_cases e : k = t + 1
  · subst e
    rw [if_pos (by omega), if_pos rfl]
    rfl
  · rw [if_neg (by omega), if_neg (by omega), if_neg e]
theorem tk_if {μ μ1 ν : Mem} {n i b s : Nat} {f f1 : Nat → Int32} {P Q : Prop} [Decidable P] [Decidable Q] {L M R L' M' R' : Int32} (hi : i < 6) (hn : n + 1 < stA n i) (hs6 : s < 6) (hT : TKr μ n f b) (h1 : μ1 (n + 1) = μ (n + 1)) (h2 : ∀ k, 1 ≤ k → k ≤ 9 → f1 (b + 429 + k) = f (b + 429 + k)) : TKr (if P then dwF (flF μ1 (stA n i) s L M R) n i else μ1) n (if Q then falF f1 b i s L' M' R' else f1) b := by
  intro k k1 k2
  have e1 : (if P then dwF (flF μ1 (stA n i) s L M R) n i else μ1) (n + 1) = μ1 (n + 1) := by
    split
    · rw [dwF_ne (by omega), fl_x (by omega) (by omega) (by omega) (by omega)]
    · rfl
  have e2 : (if Q then falF f1 b i s L' M' R' else f1) (b + 429 + k) = f1 (b + 429 + k) := by
    split
    · exact fal_j hs6 (by unfold offK; omega)
    · rfl
  rw [e1, e2, h1, h2 k k1 k2]
  exact hT k k1 k2
set_option maxHeartbeats 2000000 in
theorem listen_rel {μ ν : Mem} {n i b D z s l mm rr t h m t0 : Nat} {f : Nat → Int32} {sd : Int32} (hi : i < 6) (hn : n + 1 < stA n i) (hz : μ n 5 = nI z) (hz2 : f (b + 428) = nI z) (hz3 : z ≤ 9999) (hD : D < 100000) (ht : t < 1000000)
    (hL : μ n 1 = nI l) (hL' : ν 0 3 = nI l) (hl1 : 1 ≤ l) (hl2 : l ≤ 64) (hM : μ n 2 = nI mm) (hM' : ν 0 4 = nI mm) (hm1 : 1 ≤ mm) (hm2 : mm ≤ 64) (hR : μ n 4 = nI rr) (hR' : ν 0 6 = nI rr) (hr : rr ≤ 7)
    (h6 : μ n 6 = nI (t + 1)) (hS : SR μ (stA n i) f (b + 70 * i) D) (hO : OW0 μ (stA n i) f (b + 70 * i) t) (hP : PAr μ (stA n i) f (b + 70 * i) t) (hA : AWm μ (stA n i) f (b + 70 * i) t (μ (stA n i + 7) 0)) (hbit : (sd >>> (nI i &&& 31) &&& 1 = 1) ↔ ¬ μ (stA n i + 7) 0 = 0)
    (hs6 : s < 6) (hsz : ¬ μ (stA n i) 9 = 0 → μ (stA n i + 1) 0 = nI (s + 1)) (ht0 : μ (stA n i) 2 = nI t0) (ht07 : t0 < 7) (hh : μ (stA n i + 4) 0 = nI h) (hh6 : h ≤ 6)
    (hJ : μ (stA n i + 7) 0 = 0 → ¬ m = 0 → (lowF (nI m)).toNatClampNeg ≠ i ∧ OUr μ (stA n (lowF (nI m)).toNatClampNeg + 7) (ν 5 (lowF (nI m)).toNatClampNeg) (ν 6 (lowF (nI m)).toNatClampNeg) (ν 7 (lowF (nI m)).toNatClampNeg) (ν 8 (lowF (nI m)).toNatClampNeg) ∧ ¬ ν 5 (lowF (nI m)).toNatClampNeg = 0) (hT : TKr μ n f b) :
    RA (lsnF μ n i m s t0 h) (stA n i) (gtsF ν f b i m s t0 h (nI (t + 1)) sd) (b + 70 * i) (t + 1) (D + 1) ∧ TKr (lsnF μ n i m s t0 h) n (gtsF ν f b i m s t0 h (nI (t + 1)) sd) b := by
  by_cases hw0 : μ (stA n i + 7) 0 = 0
  · have hb0 : ¬ (sd >>> (nI i &&& 31) &&& 1 = 1) := fun q => hbit.mp q hw0
    have hAr : AWr μ (stA n i) f (b + 70 * i) (t + 1) := by
      rw [hw0] at hA
      rcases hA with ⟨_, q⟩ | ⟨e, _⟩ | ⟨e, _⟩ | ⟨e, _⟩
      · exact q
      · exact absurd e (by decide)
      · exact absurd e (by decide)
      · rcases e with e | e | ⟨e, _⟩ <;> exact absurd e (by decide)
    by_cases hp : 1 < popN m
    · have e1 : lsnF μ n i m s t0 h = if ¬ μ (stA n i) 9 = 0 then dwF (flF (up2 μ (stA n i) 5 (μ (stA n i) 5 + 1)) (stA n i) s (μ n 1) (μ n 2) (μ n 4)) n i else up2 μ (stA n i) 5 (μ (stA n i) 5 + 1) := by
        unfold lsnF; rw [if_neg (fun q => q hw0), if_pos hp]
      have e2 : gotF ν f b i m s t0 h (nI (t + 1)) sd = (0, upd f (b + 70 * i + 4) (f (b + 70 * i + 4) + 1)) := by
        unfold gotF; rw [if_neg hb0, if_pos hp]
      rw [e1]; unfold gtsF; rw [e2]
      have hc := cl_fin (μ := μ) (ν := ν) (f := f) (s := s) (mm := mm) (rr := rr) (l := l) (μ1 := up2 μ (stA n i) 5 (μ (stA n i) 5 + 1)) (f1 := upd f (b + 70 * i + 4) (f (b + 70 * i + 4) + 1)) (z := z) hi hn (by rw [up2_ne (by omega)]; exact hz) (by rw [upd_ne (by omega)]; exact hz2) hz3 hD hL hL' hl1 hl2 hM hM' hm1 hm2 hR hR' hr (h_clash hS hAr hO hP) (fun q => by rw [up2_k (k := 5) (k' := 9) (by decide)] at q; rw [up2_ne (by omega)]; exact ⟨hsz q, hs6⟩) (upd_ne (by omega)) (upd_ne (by omega))
      rw [up2_k (k := 5) (k' := 9) (by decide)] at hc
      exact ⟨hc, tk_if (μ := μ) (ν := ν) (f := f) hi hn hs6 hT (up2_ne (by omega)) (fun k _ _ => upd_ne (by omega))⟩
    · by_cases hm0 : m = 0
      · have e1 : lsnF μ n i m s t0 h = if ¬ μ (stA n i) 9 = 0 then dwF (flF μ (stA n i) s (μ n 1) (μ n 2) (μ n 4)) n i else μ := by
          unfold lsnF; rw [if_neg (fun q => q hw0), if_neg hp, if_pos hm0]
        have e2 : gotF ν f b i m s t0 h (nI (t + 1)) sd = (0, f) := by
          unfold gotF; rw [if_neg hb0, if_neg hp, if_pos hm0]
        rw [e1]; unfold gtsF; rw [e2]
        exact ⟨cl_fin (μ := μ) (ν := ν) (f := f) (s := s) (mm := mm) (rr := rr) (l := l) (z := z) hi hn hz hz2 hz3 hD hL hL' hl1 hl2 hM hM' hm1 hm2 hR hR' hr ⟨hS, hAr, hO.up, hP.up⟩ (fun q => ⟨hsz q, hs6⟩) rfl rfl, tk_if (μ := μ) (ν := ν) (f := f) hi hn hs6 hT rfl (fun k _ _ => rfl)⟩
      · obtain ⟨hji, hU, hw⟩ := hJ hw0 hm0
        generalize hjj : (lowF (nI m)).toNatClampNeg = j at hji hU hw
        have e1 : lsnF μ n i m s t0 h = if ¬ (gfF μ n i j h).1 = 0 then dwF (clsF (tsF (gfF μ n i j h).2 n (stA n i) t0) (stA n i) s (μ n 1)) n i else if ¬ (gfF μ n i j h).2 (stA n i) 9 = 0 then dwF (flF (gfF μ n i j h).2 (stA n i) s (μ n 1) (μ n 2) (μ n 4)) n i else (gfF μ n i j h).2 := by
          unfold lsnF; rw [if_neg (fun q => q hw0), if_neg hp, if_neg hm0, hjj]
        have e2 : gotF ν f b i m s t0 h (nI (t + 1)) sd = if ν 6 j = nI i then tkoF f b i j s t0 (nI (t + 1)) (ν 5 j) (ν 7 j) (ν 8 j) (ν 0 3) else (0, ohsF f b i j h (nI (t + 1)) (ν 5 j) (ν 6 j) (ν 7 j) (ν 8 j)) := by
          unfold gotF; rw [if_neg hb0, if_neg hp, if_neg hm0, hjj]
        have hgo : stA n j + 7 < stA n i ∨ stA n i + 6 < stA n j + 7 := by unfold stA; omega
        rw [e1]; unfold gtsF; rw [e2]
        by_cases hto : ν 6 j = nI i
        · have e3 : gfF μ n i j h = takF μ (stA n i) (nI (t + 1)) (nI j) (stA n j + 7) := by
            unfold gfF; rw [if_pos (by rw [hU.2.1 hw]; exact hto), h6]
          rw [if_pos hto, e3]
          rcases hU.2.2.2.2 with w0 | w1 | w2 | w3 | w4
          · exact absurd w0 hw
          · have e4 : tkoF f b i j s t0 (nI (t + 1)) (ν 5 j) (ν 7 j) (ν 8 j) (ν 0 3) = (0, tk1F f b i j (nI (t + 1)) (ν 7 j)) := by unfold tkoF; rw [if_pos w1]
            rw [tak_1 (hU.1.trans w1), e4, hU.2.2.1 (Or.inl w1)]
            rw [if_neg (show ¬ ¬ (0 : Int32) = 0 from fun q => q rfl)]
            have hH := h_ask (μ := μ) (i := i) (b := b) (o := stA n i) (j := j) (wd := ν 7 j) hS hAr hO hP
            generalize hμ1 : (if ¬ nI (t + 1) ≤ μ (stA n i) 4 then putF μ (stA n i + 6) 2 (nI j) (ν 7 j) 0 else μ) = μ1 at hH
            have q : ∀ x, x ≠ stA n i + 6 → μ1 x = μ x := by
              intro x hx; rw [← hμ1]; split
              · exact putF_ne hx
              · rfl
            have g1 : ∀ x, x ≠ b + 70 * i + 21 → x ≠ b + 70 * i + 22 → x ≠ b + 70 * i + 23 → tk1F f b i j (nI (t + 1)) (ν 7 j) x = f x := by
              intro x x1 x2 x3; unfold tk1F; split
              · rfl
              · rw [upd_ne x3, upd_ne x2, upd_ne x1]
            exact ⟨cl_fin (μ := μ) (ν := ν) (f := f) (μ1 := μ1) (f1 := tk1F f b i j (nI (t + 1)) (ν 7 j)) (s := s) (mm := mm) (rr := rr) (l := l) (z := z) hi hn (by rw [q _ (by omega)]; exact hz) (by rw [g1 _ (by omega) (by omega) (by omega)]; exact hz2) hz3 hD hL hL' hl1 hl2 hM hM' hm1 hm2 hR hR' hr hH (fun q9 => by rw [q _ (by omega)] at q9 ⊢; exact ⟨hsz q9, hs6⟩) (g1 _ (by omega) (by omega) (by omega)) (g1 _ (by omega) (by omega) (by omega)), tk_if (μ := μ) (ν := ν) (f := f) hi hn hs6 hT (q _ (by omega)) (fun k _ _ => g1 _ (by omega) (by omega) (by omega))⟩
          · have e4 : tkoF f b i j s t0 (nI (t + 1)) (ν 5 j) (ν 7 j) (ν 8 j) (ν 0 3) = tk2F f b i (nI (t + 1)) := by unfold tkoF; rw [w2, if_neg (by decide), if_pos rfl]
            rw [tak_2 (hU.1.trans w2), e4]
            rw [if_neg (show ¬ ¬ (0 : Int32) = 0 from fun q => q rfl)]
            by_cases h9 : μ (stA n i) 9 = 2
            · have hc : f (b + 70 * i + 27) = nI (t + 1) ∧ f (b + 70 * i + 26) = 1 := by
                rcases hAr with q | q | q
                · exact absurd (q.1.symm.trans h9) (by decide)
                · exact ⟨q.2.2.1, q.2.1⟩
                · exact absurd (q.1.symm.trans h9) (by decide)
              rw [if_pos h9]
              have e5 : tk2F f b i (nI (t + 1)) = (1, upd (upd f (b + 70 * i + 26) 0) (b + 70 * i + 29) 1) := by unfold tk2F; rw [if_pos hc]
              rw [e5, if_neg (show ¬ ¬ up2 (up2 μ (stA n i) 9 0) (stA n i) 10 1 (stA n i) 9 = 0 by rw [up2_k (by decide), up2_at]; exact fun q => q rfl), if_neg (fun q => absurd (show (1 : Int32) = 0 from q.2) (by decide))]
              show RA (up2 (up2 μ (stA n i) 9 0) (stA n i) 10 1) (stA n i) (upd (upd f (b + 70 * i + 26) 0) (b + 70 * i + 29) 1) (b + 70 * i) (t + 1) (D + 1) ∧ TKr (up2 (up2 μ (stA n i) 9 0) (stA n i) 10 1) n (upd (upd f (b + 70 * i + 26) 0) (b + 70 * i + 29) 1) b
              refine ⟨h_grant h9 hS hO hP, fun k k1 k2 => ?_⟩
              rw [up2_ne (by omega), up2_ne (by omega), upd_ne (by omega), upd_ne (by omega)]
              exact hT k k1 k2
            · have hc : ¬ (f (b + 70 * i + 27) = nI (t + 1) ∧ f (b + 70 * i + 26) = 1) := by
                rintro ⟨-, q1⟩
                rcases hAr with q | q | q
                · exact absurd (q.2.symm.trans q1) (by decide)
                · exact h9 q.1
                · exact absurd (q.2.1.symm.trans q1) (by decide)
              rw [if_neg h9]
              have e5 : tk2F f b i (nI (t + 1)) = (0, f) := by unfold tk2F; rw [if_neg hc]
              rw [e5]
              exact ⟨cl_fin (μ := μ) (ν := ν) (f := f) (s := s) (mm := mm) (rr := rr) (l := l) (z := z) hi hn hz hz2 hz3 hD hL hL' hl1 hl2 hM hM' hm1 hm2 hR hR' hr ⟨hS, hAr, hO.up, hP.up⟩ (fun q => ⟨hsz q, hs6⟩) rfl rfl, tk_if (μ := μ) (ν := ν) (f := f) hi hn hs6 hT rfl (fun k _ _ => rfl)⟩
          · have e4 : tkoF f b i j s t0 (nI (t + 1)) (ν 5 j) (ν 7 j) (ν 8 j) (ν 0 3) = (0, tk3F f b i j (nI (t + 1)) (ν 7 j) (ν 8 j)) := by unfold tkoF; rw [w3, if_neg (by decide), if_neg (by decide), if_pos rfl]
            rw [tak_3 (hU.1.trans w3), e4]
            rw [if_neg (show ¬ ¬ (0 : Int32) = 0 from fun q => q rfl)]
            have hH := h_part (μ := μ) (i := i) (b := b) (o := stA n i) (j := j) (wd := ν 7 j) (p := ν 8 j) ht hgo (hU.2.2.1 (Or.inr (Or.inr w3))) (hU.2.2.2.1 w3) hS hAr hO hP
            have g1 : ∀ x, (x < b + 70 * i + 24 ∨ (b + 70 * i + 25 < x ∧ x < b + 70 * i + 30) ∨ b + 70 * i + 32 < x) → tk3F f b i j (nI (t + 1)) (ν 7 j) (ν 8 j) x = f x := by
              intro x hx; unfold tk3F; split
              · split
                · rw [upd_ne (by omega), upd_ne (by omega), upd_ne (by omega), upd_ne (by omega), upd_ne (by omega)]
                · rw [upd_ne (by omega), upd_ne (by omega), upd_ne (by omega)]
              · rw [upd_ne (by omega), upd_ne (by omega), upd_ne (by omega)]
            exact ⟨cl_fin (μ := μ) (ν := ν) (f := f) (μ1 := tpF μ (stA n i) (nI (t + 1)) (nI j) (stA n j + 7)) (f1 := tk3F f b i j (nI (t + 1)) (ν 7 j) (ν 8 j)) (s := s) (mm := mm) (rr := rr) (l := l) (z := z) hi hn (by rw [tpF_ne (by omega) (by omega)]; exact hz) (by rw [g1 _ (by omega)]; exact hz2) hz3 hD hL hL' hl1 hl2 hM hM' hm1 hm2 hR hR' hr hH (fun q9 => by rw [tpF_k (by decide)] at q9; rw [tpF_ne (by omega) (by omega)]; exact ⟨hsz q9, hs6⟩) (g1 _ (by omega)) (g1 _ (by omega)), tk_if (μ := μ) (ν := ν) (f := f) hi hn hs6 hT (tpF_ne (by omega) (by omega)) (fun k _ _ => g1 _ (by omega))⟩
          · have e4 : tkoF f b i j s t0 (nI (t + 1)) (ν 5 j) (ν 7 j) (ν 8 j) (ν 0 3) = tk4F f b i s t0 (nI (t + 1)) (ν 0 3) := by unfold tkoF; rw [w4, if_neg (by decide), if_neg (by decide), if_neg (by decide)]
            rw [tak_4 (hU.1.trans w4), e4]
            by_cases h9 : μ (stA n i) 9 = 4
            · have hc : f (b + 70 * i + 27) = nI (t + 1) ∧ f (b + 70 * i + 26) = 2 ∧ μ (stA n i) 10 = 0 := by
                rcases hAr with q | q | q
                · exact absurd (q.1.symm.trans h9) (by decide)
                · exact absurd (q.1.symm.trans h9) (by decide)
                · exact ⟨q.2.2.1, q.2.1, q.2.2.2⟩
              have n9 : ¬ μ (stA n i) 9 = 0 := by rw [h9]; decide
              have e5 : tk4F f b i s t0 (nI (t + 1)) (ν 0 3) = (1, sntF f b i s t0 (ν 0 3)) := by unfold tk4F; rw [if_pos ⟨hc.1, hc.2.1⟩]
              rw [if_pos h9, e5]
              rw [if_pos (show ¬ (1 : Int32) = 0 by decide), if_neg (fun q => absurd (show (1 : Int32) = 0 from q.2) (by decide))]
              show RA (dwF (clsF (tsF (up2 μ (stA n i) 9 0) n (stA n i) t0) (stA n i) s (μ n 1)) n i) (stA n i) (sntF f b i s t0 (ν 0 3)) (b + 70 * i) (t + 1) (D + 1) ∧ TKr (dwF (clsF (tsF (up2 μ (stA n i) 9 0) n (stA n i) t0) (stA n i) s (μ n 1)) n i) n (sntF f b i s t0 (ν 0 3)) b
              obtain ⟨r1, r2, r3⟩ := sent_rel (μ := μ) (n := n) (b := b) (L := μ n 1) hi hn hz hz2 hz3 hD hL hl1 hl2 hS hc.2.2 (hsz n9) hs6 ht0 ht07
              have eL : ν 0 3 = μ n 1 := hL'.trans hL.symm
              rw [eL]
              refine ⟨⟨r1, Or.inl ⟨r2, r3⟩, (hO.up).fr ?_ ?_, (hP.up).fr ?_ ?_, fun q => absurd r2 q⟩, fun k k1 k2 => ?_⟩
              · rw [dwF_ne (by omega), cls_x (by omega) (by omega) (by omega) (by omega)]; unfold tsF; rw [up2_ne (by omega), up2_ne (by omega), up2_ne (by omega)]
              · intro k k1 k2; unfold sntF; rw [ovs_j hs6 (by unfold offK; omega), upd_ne (by omega), upd_ne (by omega)]
              · intro k k1 k2; rw [dwF_k (by omega) (by omega), cls_k (by omega) (by omega) (by omega)]; unfold tsF; rw [up2_k (by omega), up2_ne (by omega), up2_k (by omega)]
              · intro k k1 k2; unfold sntF; rw [ovs_j hs6 (by unfold offK; omega), upd_ne (by omega), upd_ne (by omega)]
              · rw [dwF_ne (by omega), cls_x (by omega) (by omega) (by omega) (by omega), ts_took (by omega), snt_took hs6 hi, up2_ne (by omega)]
                by_cases e : k = t0 + 1
                · rw [if_pos e, if_pos e, hT (t0 + 1) (by omega) (by omega)]
                · rw [if_neg e, if_neg e]; exact hT k k1 k2
            · have hc : ¬ (f (b + 70 * i + 27) = nI (t + 1) ∧ f (b + 70 * i + 26) = 2) := by
                rintro ⟨-, q1⟩
                rcases hAr with q | q | q
                · exact absurd (q.2.symm.trans q1) (by decide)
                · exact absurd (q.2.1.symm.trans q1) (by decide)
                · exact h9 q.1
              have e5 : tk4F f b i s t0 (nI (t + 1)) (ν 0 3) = (0, f) := by unfold tk4F; rw [if_neg hc]
              rw [if_neg h9, e5]
              rw [if_neg (show ¬ ¬ (0 : Int32) = 0 from fun q => q rfl)]
              exact ⟨cl_fin (μ := μ) (ν := ν) (f := f) (s := s) (mm := mm) (rr := rr) (l := l) (z := z) hi hn hz hz2 hz3 hD hL hL' hl1 hl2 hM hM' hm1 hm2 hR hR' hr ⟨hS, hAr, hO.up, hP.up⟩ (fun q => ⟨hsz q, hs6⟩) rfl rfl, tk_if (μ := μ) (ν := ν) (f := f) hi hn hs6 hT rfl (fun k _ _ => rfl)⟩
        · have e3 : gfF μ n i j h = (0, ovhF μ (stA n i) h (nI (t + 1)) (nI j) (stA n j + 7)) := by
            unfold gfF; rw [if_neg (by rw [hU.2.1 hw]; exact hto), h6]
          rw [if_neg hto, e3]
          rw [if_neg (show ¬ ¬ (0 : Int32) = 0 from fun q => q rfl)]
          have hH := h_over (μ := μ) (i := i) (b := b) (o := stA n i) (j := j) (g := stA n j + 7) (sl := nI (t + 1)) hh hh6 hU.1 (hU.2.1 hw) (mor_eq hU) hS hAr hO hP
          have g1 : ∀ x, (x < b + 70 * i ∨ (b + 70 * i + 3 < x ∧ x < b + 70 * i + 33) ∨ b + 70 * i + 70 ≤ x) → ohsF f b i j h (nI (t + 1)) (ν 5 j) (ν 6 j) (ν 7 j) (ν 8 j) x = f x := by
            intro x hx; unfold ohsF oh1F sh4F; split
            · rw [upd_ne (by omega), upd_ne (by omega), upd_ne (by omega), upd_ne (by omega), upd_ne (by omega), if_neg (by omega), upd_ne (by omega)]
            · rw [upd_ne (by omega), upd_ne (by omega), upd_ne (by omega), upd_ne (by omega), upd_ne (by omega), upd_ne (by omega)]
          exact ⟨cl_fin (μ := μ) (ν := ν) (f := f) (μ1 := ovhF μ (stA n i) h (nI (t + 1)) (nI j) (stA n j + 7)) (f1 := ohsF f b i j h (nI (t + 1)) (ν 5 j) (ν 6 j) (ν 7 j) (ν 8 j)) (s := s) (mm := mm) (rr := rr) (l := l) (z := z) hi hn (by rw [ovhF_ne (by omega) (by omega) (by omega)]; exact hz) (by rw [g1 _ (by omega)]; exact hz2) hz3 hD hL hL' hl1 hl2 hM hM' hm1 hm2 hR hR' hr hH (fun q9 => by rw [ovhF_k (by decide)] at q9; rw [ovhF_ne (by omega) (by omega) (by omega)]; exact ⟨hsz q9, hs6⟩) (g1 _ (by omega)) (g1 _ (by omega)), tk_if (μ := μ) (ν := ν) (f := f) hi hn hs6 hT (ovhF_ne (by omega) (by omega) (by omega)) (fun k _ _ => g1 _ (by omega))⟩
  · have hb1 : sd >>> (nI i &&& 31) &&& 1 = 1 := hbit.mpr hw0
    have e1 : lsnF μ n i m s t0 h = awtF μ (stA n i) := by unfold lsnF; rw [if_pos hw0]
    have e2 : gotF ν f b i m s t0 h (nI (t + 1)) sd = (0, f) := by unfold gotF; rw [if_pos hb1]
    have ne1 : ¬ nI (t + 2) = nI (t + 1) := nI_ne (by omega) (by omega) (by omega)
    have hx : ∀ x, x ≠ stA n i → awtF μ (stA n i) x = μ x := by
      intro x hx; unfold awtF; split
      · exact up2_ne hx
      · split
        · exact up2_ne hx
        · rfl
    have hk : ∀ k, k ≠ 9 → awtF μ (stA n i) (stA n i) k = μ (stA n i) k := by
      intro k hk; unfold awtF; split
      · exact up2_k hk
      · split
        · exact up2_k hk
        · rfl
    have hw : ¬ (¬ f (b + 70 * i + 26) ≤ 0 ∧ f (b + 70 * i + 27) = nI (t + 1)) := by
      rintro ⟨q1, q2⟩
      rcases hA with ⟨e, _⟩ | ⟨_, _, _, _, e, _⟩ | ⟨_, _, _, _, e, _⟩ | ⟨_, _, e⟩
      · exact hw0 e
      · exact ne1 (e.symm.trans q2)
      · exact ne1 (e.symm.trans q2)
      · exact q1 (by rw [e]; decide)
    rw [e1]; unfold gtsF; rw [e2, if_neg (fun q => hw q.1)]
    refine ⟨⟨?_, ?_, (hO.up).fr (hx _ (by omega)) (fun _ _ _ => rfl), (hP.up).fr (fun k k1 _ => hk _ (by omega)) (fun _ _ _ => rfl), fun _ => ?_⟩, fun k k1 k2 => by rw [hx _ (by omega)]; exact hT k k1 k2⟩
    · -- SR: only awaits has changed, and the row isn't empty where it has
      have hsz0 : μ (stA n i + 1) 0 = 0 → awtF μ (stA n i) (stA n i) 9 = 0 := by
        intro h0
        unfold awtF
        rcases hA with ⟨e, _⟩ | ⟨_, _, _, _, _, q⟩ | ⟨_, _, _, _, _, q⟩ | ⟨e, q9, _⟩
        · exact absurd e hw0
        · exact absurd h0 q
        · exact absurd h0 q
        · rcases e with e | e | ⟨e, e10⟩ <;> rw [e]
          · simp [q9]
          · simp [q9]
          · simp [q9, e10]
      obtain ⟨⟨a1, a2, a3, a4, a5, a6, a7, a8, a9, a10, a11⟩, ww, tt, ⟨kk, kk1, kk2⟩, ⟨s', s1, s2, s3, s4, s5⟩, ⟨hd, q1, q2, q3⟩, b4⟩ := hS
      refine ⟨⟨?_, ?_, ?_, ?_, ?_, ?_, ?_, ?_, ?_, ?_, ?_⟩, ?_, ?_, ⟨kk, ?_, by omega⟩, ⟨s', ?_, s2, ?_, ?_, ?_⟩, ⟨hd, ?_, q2, ?_⟩, ?_⟩
      · rw [hk _ (by decide)]; exact a1
      · rw [hk _ (by decide)]; exact a2
      · rw [hk _ (by decide)]; exact a3
      · rw [hk _ (by decide)]; exact a4
      · rw [hk _ (by decide)]; exact a5
      · rw [hk _ (by decide)]; exact a6
      · rw [hk _ (by decide)]; exact a7
      · rw [hx _ (by omega)]; exact a8
      · rw [hk _ (by decide)]; exact a9
      · rw [hx _ (by omega)]; exact a10
      · rw [hk _ (by decide)]; exact a11
      · rw [hk _ (by decide)]; exact ww
      · rw [hk _ (by decide)]; exact tt
      · rw [hk _ (by decide)]; exact kk1
      · rw [hx _ (by omega)]; exact s1
      · intro k hk'; rw [hx _ (by omega), hx _ (by omega)]; exact s3 k hk'
      · rw [hk _ (by decide)]; exact s4
      · intro e; rw [hk 10 (by decide), hk 11 (by decide)]; exact ⟨hsz0 (by rw [s1, e]; rfl), (s5 e).2⟩
      · rw [hx _ (by omega)]; exact q1
      · intro k hk'; rw [hx _ (by omega)]; exact q3 k hk'
      · rw [hk _ (by decide)]; exact b4
    · unfold AWr
      rw [hk 10 (by decide)]
      unfold awtF
      rcases hA with ⟨e, _⟩ | ⟨e, q9, q10, q26, q27, _⟩ | ⟨e, q9, q10, q26, q27, _⟩ | ⟨e, q9, q26⟩
      · exact absurd e hw0
      · rw [if_pos e, up2_at]; exact Or.inr (Or.inl ⟨rfl, q26, q27, q10⟩)
      · rw [e, if_neg (by decide), if_pos ⟨rfl, q10⟩, up2_at]; exact Or.inr (Or.inr ⟨rfl, q26, q27, q10⟩)
      · left
        refine ⟨?_, q26⟩
        rcases e with e | e | ⟨e, e10⟩ <;> rw [e]
        · simp [q9]
        · simp [q9]
        · simp [q9, e10]
    · rw [hx _ (by omega)]
      exact hO.choose_spec.choose_spec.2.2.2.2
