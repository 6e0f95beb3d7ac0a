/-! one slot, on both sides: bits, frames, the relation of a net -/
theorem bit_nI : ∀ a, a < 64 → ∀ i, i < 6 → ((nI a >>> (nI i &&& 31) &&& 1 = 1) ↔ a.testBit i = true) := by decide +kernel
theorem or_nI : ∀ a, a < 64 → ∀ k, k < 6 → (nI a ||| ((1 : Int32) <<< (nI k &&& 31)) = nI (a ||| 2 ^ k) ∧ a ||| 2 ^ k < 64) := by decide +kernel
theorem and_nI : ∀ a, a < 64 → ∀ b, b < 64 → (nI a &&& nI b = nI (a &&& b) ∧ a &&& b < 64) := by decide +kernel
theorem low_bit : ∀ m, m < 64 → (m = 0 ∨ (m.testBit (lowF (nI m)).toNatClampNeg = true ∧ (lowF (nI m)).toNatClampNeg < 6)) := by decide +kernel
/-- the senders among the first k -/
def kap (w : Nat → Int32) : Nat → Nat
  | 0 => 0
  | k + 1 => if w k = 0 then kap w k else kap w k ||| 2 ^ k
theorem kap_bit {w : Nat → Int32} : ∀ k i, (kap w k).testBit i = true ↔ (i < k ∧ ¬ w i = 0)
  | 0, i => by simp [kap]
  | k + 1, i => by
    unfold kap
    by_cases h : w k = 0
    · rw [if_pos h, kap_bit k i]
      constructor
      · rintro ⟨a, b⟩; exact ⟨by omega, b⟩
      · rintro ⟨a, b⟩
        refine ⟨?_, b⟩
        rcases Nat.lt_or_ge i k with q | q
        · exact q
        · exact absurd (by rw [show i = k by omega]; exact h) b
    · rw [if_neg h, Nat.testBit_or, Bool.or_eq_true, kap_bit k i, Nat.testBit_two_pow]
      constructor
      · rintro (⟨a, b⟩ | a)
        · exact ⟨by omega, b⟩
        · have : k = i := by simpa using a
          subst this; exact ⟨by omega, h⟩
      · rintro ⟨a, b⟩
        rcases Nat.lt_or_ge i k with q | q
        · exact Or.inl ⟨q, b⟩
        · right; simp; omega
theorem kap_lt {w : Nat → Int32} : ∀ k, k ≤ 6 → kap w k < 64
  | 0, _ => by simp [kap]
  | k + 1, h => by
    unfold kap
    have := kap_lt (w := w) k (by omega)
    split
    · exact this
    · exact (or_nI _ this k (by omega)).2
/-- the mid of a slot -/
def MR (μ : Mem) (o : Nat) (f : Nat → Int32) (c t D : Nat) (w wh wd p : Int32) : Prop := SR μ o f c D ∧ OW0 μ o f c t ∧ PAr μ o f c t ∧ AWm μ o f c t w ∧ OUr μ (o + 7) w wh wd p
theorem OW0.fr {μ μ' : Mem} {o : Nat} {f f' : Nat → Int32} {c t : Nat} (h6 : μ' (o + 6) = μ (o + 6)) (h21 : f' (c + 21) = f (c + 21)) (h24 : f' (c + 24) = f (c + 24)) (h : OW0 μ o f c t) : OW0 μ' o f' c t := by
  unfold OW0 at h ⊢; rw [h6, h21, h24]; exact h
theorem MR.fr {μ μ' : Mem} {o : Nat} {f f' : Nat → Int32} {c t D : Nat} {w wh wd p : Int32} (hm : ∀ x, o ≤ x → x ≤ o + 7 → μ' x = μ x) (hf : ∀ j, c ≤ j → j < c + 70 → f' j = f j) (h : MR μ o f c t D w wh wd p) : MR μ' o f' c t D w wh wd p := by
  obtain ⟨h1, h2, h3, h4, h5⟩ := h
  have e0 := hm o (by omega) (by omega)
  have g : ∀ k, k < 70 → f' (c + k) = f (c + k) := fun k hk => hf (c + k) (by omega) (by omega)
  refine ⟨h1.fr (fun k _ => by rw [e0]) (fun x a b => hm x (by omega) (by omega)) (fun k hk _ => g k hk) (Nat.le_refl D), h2.fr (hm _ (by omega) (by omega)) (g 21 (by omega)) (g 24 (by omega)), h3.fr (fun k _ _ => by rw [e0]) (fun k _ _ => g k (by omega)), ?_, ?_⟩
  · unfold AWm AWr at h4 ⊢
    rw [e0, hm (o + 1) (by omega) (by omega), g 26 (by omega), g 27 (by omega)]; exact h4
  · unfold OUr at h5 ⊢
    rw [hm (o + 7) (by omega) (by omega)]; exact h5
theorem sds_j {f : Nat → Int32} {b i j : Nat} {sl w wd : Int32} (h : j < b + 70 * i ∨ b + 70 * i + 70 ≤ j) : sdsF f b i sl w wd j = f j := by
  unfold sdsF
  split
  · rw [upd_ne (by omega)]
  · split
    · rw [upd_ne (by omega), upd_ne (by omega)]
    · split
      · split
        · rw [upd_ne (by omega), upd_ne (by omega), upd_ne (by omega), upd_ne (by omega)]
        · rw [upd_ne (by omega), upd_ne (by omega)]
      · rfl
theorem sdM_j {f : Nat → Int32} {b j : Nat} {sl as : Int32} : ∀ k, (j < b ∨ b + 70 * k ≤ j) → sdM f b sl as k j = f j
  | 0, _ => rfl
  | k + 1, h => by
    show sdsF (sdM f b sl as k) b k sl (syW f b k sl as) (wdeF f b k sl) j = f j
    rw [sds_j (by omega), sdM_j k (by omega)]
theorem saM_x {μ : Mem} {n x : Nat} : ∀ k, (x < n + 3 ∨ stA n k ≤ x) → saM μ n k x = μ x
  | 0, _ => rfl
  | k + 1, h => by
    show sdF1 (saM μ n k) n (stA n k) x = μ x
    unfold stA at h
    rw [sdF1_ne (by unfold stA; omega), saM_x k (by unfold stA; omega)]
theorem tko_j {f : Nat → Int32} {b i j n t x : Nat} {sl w wd p L : Int32} (hi : i < 6) (hn : n < 6) (h : x < b + 70 * i ∨ b + 70 * i + 70 ≤ x) (h2 : x ≠ b + 429 + t + 1) : (tkoF f b i j n t sl w wd p L).2 x = f x := by
  unfold tkoF
  split
  · show tk1F f b i j sl wd x = f x
    unfold tk1F; split
    · rfl
    · rw [upd_ne (by omega), upd_ne (by omega), upd_ne (by omega)]
  · split
    · unfold tk2F; split
      · show upd (upd f (b + 70 * i + 26) 0) (b + 70 * i + 29) 1 x = f x
        rw [upd_ne (by omega), upd_ne (by omega)]
      · rfl
    · split
      · show tk3F f b i j sl wd p x = f x
        unfold tk3F; split
        · split
          · rw [upd_ne (by omega), upd_ne (by omega), upd_ne (by omega), upd_ne (by omega), upd_ne (by omega)]
          · rw [upd_ne (by omega), upd_ne (by omega), upd_ne (by omega)]
        · rw [upd_ne (by omega), upd_ne (by omega), upd_ne (by omega)]
      · unfold tk4F; split
        · show sntF f b i n t L x = f x
          unfold sntF
          rw [ovs_j hn (by unfold offK; omega), upd_ne (by omega), upd_ne (by omega)]
        · rfl
theorem ohs_j {f : Nat → Int32} {b i j h x : Nat} {sl w wh wd p : Int32} (hh : h ≤ 6) (hx : x < b + 70 * i ∨ b + 70 * i + 70 ≤ x) : ohsF f b i j h sl w wh wd p x = f x := by
  unfold ohsF oh1F sh4F; split
  · rw [upd_ne (by omega), upd_ne (by omega), upd_ne (by omega), upd_ne (by omega), upd_ne (by omega), if_neg (by omega), upd_ne (by omega)]
  · rw [upd_ne (by omega), upd_ne (by omega), upd_ne (by omega), upd_ne (by omega), upd_ne (by omega), upd_ne (by omega)]
theorem gts_j {ν : Mem} {f : Nat → Int32} {b i m n t h x : Nat} {sl sd : Int32} (hi : i < 6) (hn : n < 6) (hh : h ≤ 6) (hx : x < b + 70 * i ∨ b + 70 * i + 70 ≤ x) (h2 : x ≠ b + 429 + t + 1) : gtsF ν f b i m n t h sl sd x = f x := by
  have hg : (gotF ν f b i m n t h sl sd).2 x = f x := by
    unfold gotF
    split
    · rfl
    · split
      · show upd f (b + 70 * i + 4) (f (b + 70 * i + 4) + 1) x = f x
        rw [upd_ne (by omega)]
      · split
        · rfl
        · split
          · exact tko_j hi hn hx h2
          · exact ohs_j hh hx
  unfold gtsF
  split
  · rw [fal_j hn (by unfold offK; omega), hg]
  · exact hg
def CFr (μ : Mem) (n : Nat) (ν : Mem) (N : Nat) : Prop := μ n 0 = nI N ∧ ν 0 2 = nI N ∧ 2 ≤ N ∧ N ≤ 6 ∧ (∃ l, μ n 1 = nI l ∧ ν 0 3 = nI l ∧ 1 ≤ l ∧ l ≤ 64) ∧ (∃ m, μ n 2 = nI m ∧ ν 0 4 = nI m ∧ 1 ≤ m ∧ m ≤ 64) ∧ μ n 3 = ν 0 5 ∧ (∃ r, μ n 4 = nI r ∧ ν 0 6 = nI r ∧ r ≤ 7)
def HSr (μ : Mem) (n : Nat) (f : Nat → Int32) (b N : Nat) : Prop := ∃ hm : Nat → Nat, (∀ i, i < N → hm i < 64 ∧ μ (stA n i) 0 = nI (hm i) ∧ f (b + 420 + i) = nI (hm i)) ∧ ∀ i j, i < N → j < N → (hm i).testBit j = (hm j).testBit i
def NR (μ : Mem) (n : Nat) (ν : Mem) (b N t D : Nat) : Prop := CFr μ n ν N ∧ (∃ z, μ n 5 = nI z ∧ ν 2 (b + 428) = nI z ∧ z ≤ 9999) ∧ μ n 6 = nI t ∧ ν 2 (b + 426) = nI t ∧ μ n 7 = ν 2 (b + 427) ∧ TKr μ n (ν 2) b ∧ HSr μ n (ν 2) b N ∧ ∀ i, i < N → RA μ (stA n i) (ν 2) (b + 70 * i) t D
/-- behind k stations' sending -/
theorem send_all {μ : Mem} {n b N t D : Nat} {f : Nat → Int32} {as : Int32} (ht : t < 1000000) (hN : N ≤ 6) (h6 : μ n 6 = nI t) (h7 : μ n 7 = f (b + 427)) (h3 : μ n 3 = as) (hH : ∀ i, i < N → μ (stA n i) 0 = f (b + 420 + i)) (hR : ∀ i, i < N → RA μ (stA n i) f (b + 70 * i) t D) :
    ∀ k, k ≤ N → (∀ i, i < k → MR (saM μ n k) (stA n i) (sdM f b (nI (t + 1)) as k) (b + 70 * i) t D (syW f b i (nI (t + 1)) as) (whmF f b i (nI (t + 1))) (wdeF f b i (nI (t + 1))) (f (b + 70 * i + 28))) ∧ saK μ n k = nI (kap (fun i => syW f b i (nI (t + 1)) as) k) ∧ syK f b (nI (t + 1)) as k = nI (kap (fun i => syW f b i (nI (t + 1)) as) k) := by
  intro k
  induction k with
  | zero => intro _; exact ⟨fun i hi => by omega, rfl, rfl⟩
  | succ k ih =>
    intro hk
    obtain ⟨ih1, ih2, ih3⟩ := ih (by omega)
    have eM : ∀ x, stA n k ≤ x → saM μ n k x = μ x := fun x hx => saM_x k (Or.inr hx)
    have eF : ∀ j, (j < b ∨ b + 70 * k ≤ j) → sdM f b (nI (t + 1)) as k j = f j := fun j hj => sdM_j k hj
    have hRk : RA (saM μ n k) (stA n k) (sdM f b (nI (t + 1)) as k) (b + 70 * k) t D := RA.frame (fun x h1 _ => eM x h1) (fun j h1 _ => eF j (by omega)) (hR k (by omega))
    have hwd : wdeF (sdM f b (nI (t + 1)) as k) b k (nI (t + 1)) = wdeF f b k (nI (t + 1)) := by
      unfold wdeF; rw [eF _ (by omega), eF _ (by omega), eF _ (by omega)]
    have hwh : whmF (sdM f b (nI (t + 1)) as k) b k (nI (t + 1)) = whmF f b k (nI (t + 1)) := by
      unfold whmF; rw [eF _ (by omega), eF _ (by omega), eF _ (by omega), eF _ (by omega), eF _ (by omega)]
    have hw : wtP (sdM f b (nI (t + 1)) as k) b k (nI (t + 1)) as (syW f b k (nI (t + 1)) as) := wtP_fr (fun j hj => eF _ (by omega)) (eF _ (by omega)) (eF _ (by omega)) (syW_ok f b k (nI (t + 1)) as)
    have hg := sdsF_ok (sdM f b (nI (t + 1)) as k) b k (nI (t + 1)) (syW f b k (nI (t + 1)) as) (wdeF (sdM f b (nI (t + 1)) as k) b k (nI (t + 1)))
    have key := send_rel (as := as) ht (by rw [saM_n (by omega)]; exact h6) (by rw [saM_n (by omega), eF _ (by omega)]; exact h7) (by rw [eM _ (Nat.le_refl _), eF _ (by omega)]; exact hH k (by omega)) (by rw [saM_n (by omega)]; exact h3) hRk (sdF1_ok (saM μ n k) n (stA n k)) hw hg
    obtain ⟨k1, k2, k3, k4, k5, k6⟩ := key
    rw [hwd] at k2 k3 k4 k5 k6
    rw [hwh, eF _ (by omega)] at k6
    refine ⟨fun i hi => ?_, ?_, ?_⟩
    · by_cases e : i = k
      · subst e; exact ⟨k2, k3, k4, k5, k6⟩
      · refine MR.fr ?_ ?_ (ih1 i (by omega))
        · intro x h1 h2
          show sdF1 (saM μ n k) n (stA n k) x = _
          rw [sdF1_ne]; unfold stA at h1 h2 ⊢; omega
        · intro j h1 h2
          show sdsF _ b k _ _ _ j = _
          rw [sds_j (by omega)]
    · show (if ktsF (saM μ n k) n (stA n k) = 0 then saK μ n k else saK μ n k ||| (1 <<< (nI k &&& 31))) = _
      rw [k1, ih2]
      show _ = nI (if syW f b k (nI (t + 1)) as = 0 then _ else _)
      by_cases e : syW f b k (nI (t + 1)) as = 0
      · rw [if_pos e, if_pos e]
      · rw [if_neg e, if_neg e, (or_nI _ (kap_lt k (by omega)) k (by omega)).1]
    · show syK f b (nI (t + 1)) as k ||| (if syW f b k (nI (t + 1)) as ≤ 0 then (0 : Int32) else (1 : Int32) <<< (nI k &&& 31)) = _
      rw [ih3]
      show _ = nI (if syW f b k (nI (t + 1)) as = 0 then _ else _)
      by_cases e : syW f b k (nI (t + 1)) as = 0
      · rw [if_pos (by rw [e]; decide), if_pos e, Int32.or_zero]
      · have : ¬ syW f b k (nI (t + 1)) as ≤ 0 := by
          rcases k6.2.2.2.2 with q | q | q | q | q
          · exact absurd q e
          all_goals rw [q]; decide
        rw [if_neg this, if_neg e, (or_nI _ (kap_lt k (by omega)) k (by omega)).1]
