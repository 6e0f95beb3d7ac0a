theorem cls_x {μ : Mem} {o s x : Nat} {L : Int32} (h : x ≠ o) (h1 : x ≠ o + 1) (h2 : x ≠ o + 2) (h3 : x ≠ o + 3) : clsF μ o s L x = μ x := by
  unfold clsF; rw [up2_ne h, up2_ne h, up2_ne h, rmv_ne h1 h2 h3]
theorem cls_k {μ : Mem} {o s k : Nat} {L : Int32} (h1 : k ≠ 1) (h2 : k ≠ 2) (h11 : k ≠ 11) : clsF μ o s L o k = μ o k := by
  unfold clsF; rw [up2_k h1, up2_k h2, up2_k h11, rmv_ne (by omega) (by omega) (by omega)]
theorem fl_x {μ : Mem} {o s x : Nat} {L M R : Int32} (h : x ≠ o) (h1 : x ≠ o + 1) (h2 : x ≠ o + 2) (h3 : x ≠ o + 3) : flF μ o s L M R x = μ x := by
  unfold flF; split
  · rw [up2_ne h, up2_ne h, up2_ne h, up2_ne h]
  · rw [cls_x h h1 h2 h3, up2_ne h, up2_ne h, up2_ne h]
theorem fl_k {μ : Mem} {o s k : Nat} {L M R : Int32} (h : 12 ≤ k) : flF μ o s L M R o k = μ o k := by
  unfold flF; split
  · rw [up2_k (by omega), up2_k (by omega), up2_k (by omega), up2_k (by omega)]
  · rw [cls_k (by omega) (by omega) (by omega), up2_k (by omega), up2_k (by omega), up2_k (by omega)]
theorem fl_0 {μ : Mem} {o s : Nat} {L M R : Int32} : flF μ o s L M R o 0 = μ o 0 := by
  unfold flF; split
  · rw [up2_k (by decide), up2_k (by decide), up2_k (by decide), up2_k (by decide)]
  · rw [cls_k (by decide) (by decide) (by decide), up2_k (by decide), up2_k (by decide), up2_k (by decide)]
def offK (c j : Nat) : Prop := j < c ∨ c + 70 ≤ j ∨ (c + 21 ≤ j ∧ j ≤ c + 25) ∨ c + 30 ≤ j
theorem cms_j {f : Nat → Int32} {b i j : Nat} (h : offK (b + 70 * i) j) : cmsF f b i j = f j := by
  unfold offK at h
  exact cmsF_ne (by omega) (by omega) (by omega) (by omega) (by omega)
theorem ovs_j {f : Nat → Int32} {b i s j : Nat} {L : Int32} (hs : s < 6) (h : offK (b + 70 * i) j) : ovsF f b i s L j = f j := by
  unfold ovsF; rw [cms_j h]
  unfold offK at h
  rw [upd_ne (by omega), upd_ne (by omega), shf_out (by omega), upd_ne (by omega)]
theorem fal_j {f : Nat → Int32} {b i s j : Nat} {L M R : Int32} (hs : s < 6) (h : offK (b + 70 * i) j) : falF f b i s L M R j = f j := by
  unfold falF; split
  · rw [cms_j h]; unfold offK at h; rw [upd_ne (by omega), upd_ne (by omega)]
  · rw [ovs_j hs h]; unfold offK at h; rw [upd_ne (by omega), upd_ne (by omega)]
theorem nI_lt_of {a b : Nat} (ha : a < 2 ^ 31) (hb : b < 2 ^ 31) (h : nI a < nI b) : a < b := (nI_ltI ha hb).mp h
theorem min_win {w m : Nat} (hw : 1 ≤ w) (hw2 : w ≤ 64) (hm : 1 ≤ m) (hm2 : m ≤ 64) : (if nI m < 2 * nI w then nI m else 2 * nI w) = (if 2 * nI w ≤ nI m then 2 * nI w else nI m) ∧ ∃ v, (if nI m < 2 * nI w then nI m else 2 * nI w) = nI v ∧ 1 ≤ v ∧ v ≤ 64 := by
  have e : 2 * nI w = nI (2 * w) := by rw [show (2 : Int32) = nI 2 from rfl, pk_mul]
  rw [e]
  rcases Nat.lt_or_ge m (2 * w) with h | h
  · rw [if_pos ((nI_ltI (by omega) (by omega)).mpr h), if_neg (fun q => by have := (nI_leI (by omega) (by omega)).mp q; omega)]
    exact ⟨rfl, m, rfl, hm, hm2⟩
  · rw [if_neg (fun q => by have := (nI_ltI (by omega) (by omega)).mp q; omega), if_pos ((nI_leI (by omega) (by omega)).mpr h)]
    exact ⟨rfl, 2 * w, rfl, by omega, by omega⟩
theorem fail_rel {μ : Mem} {n i b D z s l mm rr : Nat} {f : Nat → Int32} {L M R : Int32} (hi : i < 6) (hn : n + 1 < stA n i) (hz : μ n 5 = nI z) (hz2 : f (b + 428) = nI z) (hz3 : z ≤ 9999) (hD : D < 100000) (hL : L = nI l) (hl1 : 1 ≤ l) (hl2 : l ≤ 64) (hM : M = nI mm) (hm1 : 1 ≤ mm) (hm2 : mm ≤ 64) (hR : R = nI rr) (hr : rr ≤ 7)
    (hS : SR μ (stA n i) f (b + 70 * i) D) (h10 : μ (stA n i) 10 = 0) (hsz : μ (stA n i + 1) 0 = nI (s + 1)) (hs6 : s < 6) :
    SR (dwF (flF μ (stA n i) s L M R) n i) (stA n i) (falF f b i s L M R) (b + 70 * i) (D + 1) ∧ (dwF (flF μ (stA n i) s L M R) n i) (stA n i) 9 = 0 ∧ falF f b i s L M R (b + 70 * i + 26) = 0 := by
  obtain ⟨⟨a1, a2, a3, a4, a5, a6, a7, a8, a9, a10, a11⟩, ⟨w, w1, w2, w3⟩, ⟨t, t1, t2⟩, hk, ⟨s', s1, s2, s3, s4, s5⟩, ⟨h, q1, q2, q3⟩, b4⟩ := hS
  have es : s' = s + 1 := (nI_eq (by omega) (by omega)).mp (s1.symm.trans hsz)
  subst es
  have et : f (b + 70 * i + 1) + 1 = nI (t + 1) := by rw [← a2, t1, nI_1]
  have et' : μ (stA n i) 2 + 1 = nI (t + 1) := by rw [t1, nI_1]
  unfold flF falF
  rw [et, et', hR]
  by_cases hc : nI (t + 1) < nI rr
  · rw [if_pos hc, if_pos hc]
    have htr : t + 1 < rr := nI_lt_of (by omega) (by omega) hc
    obtain ⟨mw1, v, mv1, mv2, mv3⟩ := min_win w2 w3 hm1 hm2
    have ew : (if M < 2 * μ (stA n i) 1 then M else 2 * μ (stA n i) 1) = nI v := by rw [hM, w1]; exact mv1
    have ew' : (if 2 * f (b + 70 * i) ≤ M then 2 * f (b + 70 * i) else M) = nI v := by rw [hM, ← a1, w1, ← mw1]; exact mv1
    rw [ew, ew']
    have co : ∀ k, k ≠ 1 → k ≠ 11 → k ≠ 2 → k ≠ 9 → up2 (up2 (up2 (up2 μ (stA n i) 9 0) (stA n i) 2 (nI (t + 1))) (stA n i) 11 0) (stA n i) 1 (nI v) (stA n i) k = μ (stA n i) k := by
      intro k k1 k2 k3 k4; rw [up2_k k1, up2_k k2, up2_k k3, up2_k k4]
    have cx : ∀ x, x ≠ stA n i → up2 (up2 (up2 (up2 μ (stA n i) 9 0) (stA n i) 2 (nI (t + 1))) (stA n i) 11 0) (stA n i) 1 (nI v) x = μ x := by
      intro x hx; rw [up2_ne hx, up2_ne hx, up2_ne hx, up2_ne hx]
    have go : ∀ j, j ≠ b + 70 * i → j ≠ b + 70 * i + 1 → upd (upd f (b + 70 * i + 1) (nI (t + 1))) (b + 70 * i) (nI v) j = f j := by
      intro j j0 j1; rw [upd_ne j0, upd_ne j1]
    refine cm_rel (z := z) hi ?_ ?_ hz3 hD ⟨⟨?_, ?_, ?_, ?_, ?_, ?_, ?_, ?_, ?_⟩, ⟨v, ?_, mv2, mv3⟩, ⟨t + 1, ?_, by omega⟩, ?_, ⟨s + 1, ?_, s2, ?_⟩, ⟨h, ?_, q2, ?_⟩⟩ ?_ ?_ ?_
    · rw [cx n (by omega)]; exact hz
    · rw [go _ (by omega) (by omega)]; exact hz2
    · rw [upd_at, up2_at]
    · rw [upd_ne (by omega), upd_at, up2_k (by decide), up2_k (by decide), up2_at]
    · rw [co _ (by decide) (by decide) (by decide) (by decide), go _ (by omega) (by omega)]; exact a3
    · rw [co _ (by decide) (by decide) (by decide) (by decide), go _ (by omega) (by omega)]; exact a4
    · rw [co _ (by decide) (by decide) (by decide) (by decide), go _ (by omega) (by omega)]; exact a5
    · rw [co _ (by decide) (by decide) (by decide) (by decide), go _ (by omega) (by omega)]; exact a6
    · rw [co _ (by decide) (by decide) (by decide) (by decide), go _ (by omega) (by omega)]; exact a7
    · rw [cx _ (by omega), go _ (by omega) (by omega)]; exact a8
    · rw [cx _ (by omega), go _ (by omega) (by omega)]; exact a10
    · rw [up2_at]
    · rw [up2_k (by decide), up2_k (by decide), up2_at]
    · rw [co _ (by decide) (by decide) (by decide) (by decide)]; exact hk
    · rw [cx _ (by omega)]; exact s1
    · intro k hk'
      rw [cx _ (by omega), cx _ (by omega), go _ (by omega) (by omega), go _ (by omega) (by omega)]
      exact s3 k hk'
    · rw [cx _ (by omega)]; exact q1
    · intro k hk'
      rw [cx _ (by omega), go _ (by omega) (by omega)]
      exact q3 k hk'
    · rw [up2_k (by decide), up2_k (by decide), up2_k (by decide), up2_at]
    · rw [co _ (by decide) (by decide) (by decide) (by decide)]; exact h10
    · rw [up2_k (by decide), up2_at]
  · rw [if_neg hc, if_neg hc]
    have co : ∀ k, k ≠ 7 → k ≠ 2 → k ≠ 9 → up2 (up2 (up2 μ (stA n i) 9 0) (stA n i) 2 (nI (t + 1))) (stA n i) 7 (μ (stA n i) 7 + 1) (stA n i) k = μ (stA n i) k := by
      intro k k1 k2 k3; rw [up2_k k1, up2_k k2, up2_k k3]
    have cx : ∀ x, x ≠ stA n i → up2 (up2 (up2 μ (stA n i) 9 0) (stA n i) 2 (nI (t + 1))) (stA n i) 7 (μ (stA n i) 7 + 1) x = μ x := by
      intro x hx; rw [up2_ne hx, up2_ne hx, up2_ne hx]
    have go : ∀ j, j ≠ b + 70 * i + 6 → j ≠ b + 70 * i + 1 → upd (upd f (b + 70 * i + 1) (nI (t + 1))) (b + 70 * i + 6) (f (b + 70 * i + 6) + 1) j = f j := by
      intro j j0 j1; rw [upd_ne j0, upd_ne j1]
    refine ov_rel (z := z) (l := l) hi hn ?_ ?_ hz3 hD hL hl1 hl2 ?_ ?_ ?_ ?_ ?_ ?_ ?_ hs6 ?_ ⟨h, ?_, q2, ?_⟩ ?_ ?_
    · rw [cx n (by omega)]; exact hz
    · rw [go _ (by omega) (by omega)]; exact hz2
    · rw [co _ (by decide) (by decide) (by decide), go _ (by omega) (by omega)]; exact a3
    · rw [co _ (by decide) (by decide) (by decide), go _ (by omega) (by omega)]; exact a4
    · rw [co _ (by decide) (by decide) (by decide), go _ (by omega) (by omega)]; exact a5
    · rw [up2_at, upd_at, a6]
    · rw [co _ (by decide) (by decide) (by decide), go _ (by omega) (by omega)]; exact a7
    · rw [cx _ (by omega), go _ (by omega) (by omega)]; exact a10
    · rw [co _ (by decide) (by decide) (by decide)]; exact hk
    · intro k hk'
      rw [cx _ (by omega), cx _ (by omega), go _ (by omega) (by omega), go _ (by omega) (by omega)]
      exact s3 k hk'
    · rw [cx _ (by omega)]; exact q1
    · intro k hk'
      rw [cx _ (by omega), go _ (by omega) (by omega)]
      exact q3 k hk'
    · rw [up2_k (by decide), up2_k (by decide), up2_at]
    · rw [co _ (by decide) (by decide) (by decide)]; exact h10
theorem sent_rel {μ : Mem} {n i b D z s l t : Nat} {f : Nat → Int32} {L : Int32} (hi : i < 6) (hn : n + 1 < stA n i) (hz : μ n 5 = nI z) (hz2 : f (b + 428) = nI z) (hz3 : z ≤ 9999) (hD : D < 100000) (hL : L = nI l) (hl1 : 1 ≤ l) (hl2 : l ≤ 64)
    (hS : SR μ (stA n i) f (b + 70 * i) D) (h10 : μ (stA n i) 10 = 0) (hsz : μ (stA n i + 1) 0 = nI (s + 1)) (hs6 : s < 6) (ht : μ (stA n i) 2 = nI t) (ht7 : t < 7) :
    SR (dwF (clsF (tsF (up2 μ (stA n i) 9 0) n (stA n i) t) (stA n i) s L) n i) (stA n i) (sntF f b i s t L) (b + 70 * i) (D + 1) ∧ (dwF (clsF (tsF (up2 μ (stA n i) 9 0) n (stA n i) t) (stA n i) s L) n i) (stA n i) 9 = 0 ∧ sntF f b i s t L (b + 70 * i + 26) = 0 := by
  obtain ⟨⟨a1, a2, a3, a4, a5, a6, a7, a8, a9, a10, a11⟩, ⟨w, w1, w2, w3⟩, ⟨t', t1, t2⟩, hk, ⟨s', s1, s2, s3, s4, s5⟩, ⟨h, q1, q2, q3⟩, b4⟩ := hS
  have es : s' = s + 1 := (nI_eq (by omega) (by omega)).mp (s1.symm.trans hsz)
  subst es
  have co : ∀ k, k ≠ 6 → k ≠ 9 → tsF (up2 μ (stA n i) 9 0) n (stA n i) t (stA n i) k = μ (stA n i) k := by
    intro k k1 k2; unfold tsF; rw [up2_k k1, up2_ne (by omega), up2_k k2]
  have cx : ∀ x, x ≠ stA n i → x ≠ n + 1 → tsF (up2 μ (stA n i) 9 0) n (stA n i) t x = μ x := by
    intro x hx hx1; unfold tsF; rw [up2_ne hx, up2_ne hx1, up2_ne hx]
  have go : ∀ j, j ≠ b + 70 * i + 5 → j ≠ b + 429 + t + 1 → upd (upd f (b + 70 * i + 5) (f (b + 70 * i + 5) + 1)) (b + 429 + t + 1) (f (b + 429 + t + 1) + 1) j = f j := by
    intro j j0 j1; rw [upd_ne j1, upd_ne j0]
  unfold sntF
  refine ov_rel (z := z) (l := l) hi hn ?_ ?_ hz3 hD hL hl1 hl2 ?_ ?_ ?_ ?_ ?_ ?_ ?_ hs6 ?_ ⟨h, ?_, q2, ?_⟩ ?_ ?_
  · rw [cx n (by omega) (by omega)]; exact hz
  · rw [go _ (by omega) (by omega)]; exact hz2
  · rw [co _ (by decide) (by decide), go _ (by omega) (by omega)]; exact a3
  · rw [co _ (by decide) (by decide), go _ (by omega) (by omega)]; exact a4
  · rw [upd_ne (by omega), upd_at]; unfold tsF; rw [up2_at, up2_k (by decide), a5]
  · rw [co _ (by decide) (by decide), go _ (by omega) (by omega)]; exact a6
  · rw [co _ (by decide) (by decide), go _ (by omega) (by omega)]; exact a7
  · rw [cx _ (by omega) (by omega), go _ (by omega) (by omega)]; exact a10
  · rw [co _ (by decide) (by decide)]; exact hk
  · intro k hk'
    rw [cx _ (by omega) (by omega), cx _ (by omega) (by omega), go _ (by omega) (by omega), go _ (by omega) (by omega)]
    exact s3 k hk'
  · rw [cx _ (by omega) (by omega)]; exact q1
  · intro k hk'
    rw [cx _ (by omega) (by omega), go _ (by omega) (by omega)]
    exact q3 k hk'
  · unfold tsF; rw [up2_k (by decide), up2_ne (by omega), up2_at]
  · rw [co _ (by decide) (by decide)]; exact h10
