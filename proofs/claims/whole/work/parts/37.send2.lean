theorem mb_iff {μ : Mem} {n i b t D : Nat} {f : Nat → Int32} (ht : t < 1000000) (h6 : μ n 6 = nI t) (h7 : μ n 7 = f (b + 427)) (h0 : μ (stA n i) 0 = f (b + 420 + i)) (hS : SR μ (stA n i) f (b + 70 * i) D) (hA : AWr μ (stA n i) f (b + 70 * i) (t + 1)) : mbP μ n (stA n i) ↔ mb2P f b i (nI (t + 1)) := by
  unfold mbP mb2P freP
  rw [h6, nI_1, hS.1.2.2.1, h7, h0, Int32.and_comm, hS.1.2.2.2.2.2.2.2.1]
  have e : μ (stA n i) 9 = 0 ↔ (f (b + 70 * i + 26) ≤ 0 ∨ ¬ f (b + 70 * i + 27) = nI (t + 1)) := by
    rcases hA with ⟨q1, q2⟩ | ⟨q1, q2, q3, _⟩ | ⟨q1, q2, q3, _⟩
    · rw [q1, q2]; simp
    · rw [q1, q2, q3]; constructor
      · intro h; exact absurd h (by decide)
      · rintro (h | h)
        · exact absurd h (by decide)
        · exact absurd rfl h
    · rw [q1, q2, q3]; constructor
      · intro h; exact absurd h (by decide)
      · rintro (h | h)
        · exact absurd h (by decide)
        · exact absurd rfl h
  rw [e]
  constructor
  · rintro ⟨a, b, c, d⟩; exact ⟨c, d, a, b⟩
  · rintro ⟨c, d, a, b⟩; exact ⟨a, b, c, d⟩
/-- a part is sent, the first or a later one -/
theorem send_part {μ : Mem} {n i b t D : Nat} {f g : Nat → Int32} {wd : Int32} (hS : SR μ (stA n i) f (b + 70 * i) D) (hs : ¬ μ (stA n i + 1) 0 = 0) (h9 : μ (stA n i) 9 = 0) (h26 : f (b + 70 * i + 26) = 0) (hO : OWr μ (stA n i) f (b + 70 * i) t) (hP : PAr μ (stA n i) f (b + 70 * i) t) (hwd : wd = f (b + 70 * i + 10)) (hg : sdsP f b i (nI (t + 1)) 3 wd g) :
    SR (sndF μ (stA n i) 3) (stA n i) g (b + 70 * i) D ∧ OW0 (sndF μ (stA n i) 3) (stA n i) g (b + 70 * i) t ∧ PAr (sndF μ (stA n i) 3) (stA n i) g (b + 70 * i) t ∧ AWm (sndF μ (stA n i) 3) (stA n i) g (b + 70 * i) t 3 ∧ OUr (sndF μ (stA n i) 3) (stA n i + 7) 3 (f (b + 70 * i + 9)) wd (f (b + 70 * i + 28)) := by
  obtain ⟨f1, f2, f3, f4⟩ := hS.first hs
  have hw : μ (stA n i + 3) 0 = wd := by rw [f2, hwd]
  have h28 : μ (stA n i) 11 = f (b + 70 * i + 28) := hS.1.2.2.2.2.2.2.2.2.1
  have e11 : sndF μ (stA n i) 3 (stA n i) 11 = μ (stA n i) 11 + 1 := by unfold sndF; rw [if_pos rfl, up2_k (by decide), up2_at]
  have e10 : sndF μ (stA n i) 3 (stA n i) 10 = if wd ≤ f (b + 70 * i + 28) + 1 then 0 else 1 := by unfold sndF; rw [if_pos rfl, up2_at, hw, h28]
  have hu : ∀ k, k ≤ 9 → sndF μ (stA n i) 3 (stA n i) k = μ (stA n i) k := fun k hk => snd_k (by omega) (by omega)
  have hux : ∀ x, stA n i + 1 ≤ x → x ≤ stA n i + 5 → sndF μ (stA n i) 3 x = μ x := fun x h1 h2 => snd_ne (by omega) (by omega) (by omega)
  have hP' : ∀ k, 12 ≤ k → k ≤ 14 → sndF μ (stA n i) 3 (stA n i) k = μ (stA n i) k := fun k h1 h2 => snd_k (by omega) (by omega)
  have hou : OUr (sndF μ (stA n i) 3) (stA n i + 7) 3 (f (b + 70 * i + 9)) wd (f (b + 70 * i + 28)) := by
    refine ⟨?_, fun _ => ?_, fun _ => ?_, fun _ => ?_, by simp⟩
    · rw [snd_7]; simp [sndA, putF, up2_ap]
    · rw [snd_7]; simp [sndA, putF, up2_ap]; exact f1
    · rw [snd_7]; simp [sndA, putF, up2_ap]; exact hw
    · rw [snd_7]; simp [sndA, putF, up2_ap]; exact h28
  obtain ⟨gg, dd, o1, o2, o3, o4, -⟩ := hO
  rcases hg with ⟨q, _⟩ | ⟨q, _⟩ | ⟨q, _⟩ | ⟨_, hc, rfl⟩ | ⟨_, hc, rfl⟩ | ⟨_, _, q, _⟩
  · exact absurd q (by decide)
  · exact absurd q (by decide)
  · exact absurd q (by decide)
  · rw [if_pos hc] at e10
    refine ⟨hS.part hs hu hux e11 e10 (Or.inl rfl) ?_ ?_ ?_, ⟨gg, dd, ?_, ?_, o3, o4, snd_6⟩, hP.fr hP' ?_, Or.inr (Or.inr (Or.inl ⟨rfl, ?_, e10, ?_, ?_, ?_⟩)), hou⟩
    · rw [upd_ne (by omega), upd_ne (by omega), upd_ne (by omega), upd_at]
    · rw [upd_ne (by omega), upd_ne (by omega), upd_at]
    · intro k h1 h2; rw [upd_ne (by omega), upd_ne (by omega), upd_ne (by omega), upd_ne (by omega)]
    · rw [upd_ne (by omega), upd_ne (by omega), upd_ne (by omega), upd_ne (by omega)]; exact o1
    · rw [upd_ne (by omega), upd_ne (by omega), upd_ne (by omega), upd_ne (by omega)]; exact o2
    · intro k h1 h2; rw [upd_ne (by omega), upd_ne (by omega), upd_ne (by omega), upd_ne (by omega)]
    · rw [hu _ (by omega)]; exact h9
    · rw [upd_ne (by omega), upd_at]
    · rw [upd_at, nI_1]
    · rw [hux _ (by omega) (by omega)]; exact hs
  · rw [if_neg hc] at e10
    refine ⟨hS.part hs hu hux e11 e10 (Or.inr rfl) ?_ ?_ ?_, ⟨gg, dd, ?_, ?_, o3, o4, snd_6⟩, hP.fr hP' ?_, Or.inr (Or.inr (Or.inr ⟨Or.inr (Or.inr ⟨rfl, e10⟩), ?_, ?_⟩)), hou⟩
    · rw [upd_ne (by omega), upd_at]
    · rw [upd_at]
    · intro k h1 h2; rw [upd_ne (by omega), upd_ne (by omega)]
    · rw [upd_ne (by omega), upd_ne (by omega)]; exact o1
    · rw [upd_ne (by omega), upd_ne (by omega)]; exact o2
    · intro k h1 h2; rw [upd_ne (by omega), upd_ne (by omega)]
    · rw [hu _ (by omega)]; exact h9
    · rw [upd_ne (by omega), upd_ne (by omega)]; exact h26
  · exact absurd rfl q
set_option maxHeartbeats 1000000 in
theorem send_rel {μ u : Mem} {n i b t D : Nat} {f g : Nat → Int32} {as r w : Int32} (ht : t < 1000000) (h6 : μ n 6 = nI t) (h7 : μ n 7 = f (b + 427)) (h0 : μ (stA n i) 0 = f (b + 420 + i)) (h3 : μ n 3 = as) (hR : RA μ (stA n i) f (b + 70 * i) t D) (hC : sdC μ n (stA n i) r u) (hw : wtP f b i (nI (t + 1)) as w) (hg : sdsP f b i (nI (t + 1)) w (wdeF f b i (nI (t + 1))) g) :
    r = w ∧ SR u (stA n i) g (b + 70 * i) D ∧ OW0 u (stA n i) g (b + 70 * i) t ∧ PAr u (stA n i) g (b + 70 * i) t ∧ AWm u (stA n i) g (b + 70 * i) t w ∧ OUr u (stA n i + 7) w (whmF f b i (nI (t + 1))) (wdeF f b i (nI (t + 1))) (f (b + 70 * i + 28)) := by
  obtain ⟨hS, hA, hO, hP, hE⟩ := hR
  have hmb := mb_iff ht h6 h7 h0 hS hA
  obtain ⟨hk, hu⟩ := hC
  have hO2 := hO
  obtain ⟨gg, dd, o1, o2, o3, o4, o5⟩ := hO
  have ng : ∀ {x : Nat}, x ≤ t → ¬ nI x = nI (t + 1) := fun h => nI_ne (by omega) (by omega) (by omega)
  have h26 : μ (stA n i) 9 = 0 → f (b + 70 * i + 26) = 0 := by
    intro h
    rcases hA with q | q | q
    · exact q.2
    · exact absurd (q.1.symm.trans h) (by decide)
    · exact absurd (q.1.symm.trans h) (by decide)
  rcases o5 with ⟨k0, og, od⟩ | ⟨k2, og, ot, ol⟩ | ⟨k4, og, od, ot⟩
  · -- nothing is owed
    have n21 : ¬ f (b + 70 * i + 21) = nI (t + 1) := by rw [o1]; exact ng og
    have n24 : ¬ f (b + 70 * i + 24) = nI (t + 1) := by rw [o2]; exact ng od
    have ewh : whmF f b i (nI (t + 1)) = f (b + 70 * i + 9) := by unfold whmF; rw [if_neg n21, if_neg n24]
    have ewd : wdeF f b i (nI (t + 1)) = f (b + 70 * i + 10) := by unfold wdeF; rw [if_neg n21]
    rw [ewd] at hg ⊢
    rw [ewh]
    have h10 : μ (stA n i) 10 = f (b + 70 * i + 29) := hS.1.2.2.2.2.2.2.2.2.2.2
    rcases hS.2.2.2.2.2.2 with z10 | z10
    · -- not at its letter
      have n29 : ¬ f (b + 70 * i + 29) = 1 := by rw [← h10, z10]; decide
      by_cases hB : mb2P f b i (nI (t + 1)) ∧ f (b + 70 * i + 2) = 0
      · -- it begins
        have hmB := hmb.mpr hB.1
        have hs : ¬ μ (stA n i + 1) 0 = 0 := fun e => hmB.2.2.2 (by rw [e]; decide)
        have h9 : μ (stA n i) 9 = 0 := hmB.2.2.1
        obtain ⟨f1, f2, f3, f4⟩ := hS.first hs
        have hwait : ¬ 0 < μ (stA n i) 3 := by rw [f3, hB.2]; decide
        have er : r = if μ (stA n i + 3) 0 < as then 3 else 1 := by
          rcases hk with ⟨q, _⟩ | ⟨_, q, _⟩ | ⟨_, _, q, _⟩ | ⟨_, _, _, _, q⟩
          · exact absurd k0 q
          · exact absurd z10 q
          · rcases q with q | q
            · exact absurd q hwait
            · exact absurd hmB q
          · rw [q, h3]
        have ew : w = if f (b + 70 * i + 10) < as then 3 else 1 := by
          rcases hw with ⟨q, _⟩ | ⟨_, q, _⟩ | ⟨_, _, q, _⟩ | ⟨_, _, _, _, _, q⟩ | ⟨_, _, _, q, _⟩
          · exact absurd q n21
          · exact absurd q n24
          · exact absurd q n29
          · exact q
          · exact absurd hB q
        rw [f2] at er
        have erw : r = w := er.trans ew.symm
        have eu : u = sndF μ (stA n i) r := by
          rcases hu with ⟨_, q, _⟩ | ⟨_, q⟩
          · exact absurd q hwait
          · exact q
        refine ⟨erw, ?_⟩
        rw [eu, erw]
        by_cases hc : f (b + 70 * i + 10) < as
        · rw [if_pos hc] at ew
          subst ew
          exact send_part hS hs h9 (h26 h9) hO2 hP rfl hg
        · rw [if_neg hc] at ew
          subst ew
          have e6 : ∀ k, k < 70 → k ≠ 26 → k ≠ 27 → g (b + 70 * i + k) = f (b + 70 * i + k) := by
            intro k k1 k2 k3
            rcases hg with ⟨q, _⟩ | ⟨q, _⟩ | ⟨_, q⟩ | ⟨q, _⟩ | ⟨q, _⟩ | ⟨_, q, _⟩
            · exact absurd q (by decide)
            · exact absurd q (by decide)
            · rw [q, upd_ne (by omega), upd_ne (by omega)]
            · exact absurd q (by decide)
            · exact absurd q (by decide)
            · exact absurd rfl q
          have e26 : g (b + 70 * i + 26) = 1 ∧ g (b + 70 * i + 27) = nI (t + 2) := by
            rcases hg with ⟨q, _⟩ | ⟨q, _⟩ | ⟨_, q⟩ | ⟨q, _⟩ | ⟨q, _⟩ | ⟨_, q, _⟩
            · exact absurd q (by decide)
            · exact absurd q (by decide)
            · rw [q, upd_at, upd_ne (by omega), upd_at, nI_1]; exact ⟨rfl, rfl⟩
            · exact absurd q (by decide)
            · exact absurd q (by decide)
            · exact absurd rfl q
          have so : ∀ k, sndF μ (stA n i) 1 (stA n i) k = μ (stA n i) k := fun k => snd_k' (by decide)
          have sx : ∀ x, stA n i + 1 ≤ x → x ≤ stA n i + 5 → sndF μ (stA n i) 1 x = μ x := fun x h1 h2 => snd_ne (by omega) (by omega) (by omega)
          refine ⟨?_, ⟨gg, dd, ?_, ?_, o3, o4, snd_6⟩, hP.fr (fun k _ _ => so k) (fun k h1 h2 => e6 k (by omega) (by omega) (by omega)), Or.inr (Or.inl ⟨rfl, ?_, ?_, e26.1, e26.2, ?_⟩), ⟨?_, fun _ => ?_, fun _ => ?_, fun q => absurd q (by decide), by simp⟩⟩
          · obtain ⟨⟨a1, a2, a3, a4, a5, a6, a7, a8, a9, b10, a11⟩, ww, tt, kk, ⟨s, s1, s2, s3, s4, s5⟩, ⟨hd, q1, q2, q3⟩, b4⟩ := hS
            have g0 := e6 0 (by omega) (by omega) (by omega)
            rw [Nat.add_zero] at g0
            refine ⟨⟨?_, ?_, ?_, ?_, ?_, ?_, ?_, ?_, ?_, ?_, ?_⟩, ?_, ?_, ?_, ⟨s, ?_, s2, ?_, ?_, ?_⟩, ⟨hd, ?_, q2, ?_⟩, ?_⟩
            · rw [so, g0]; exact a1
            · rw [so, e6 1 (by omega) (by omega) (by omega)]; exact a2
            · rw [so, e6 3 (by omega) (by omega) (by omega)]; exact a3
            · rw [so, e6 4 (by omega) (by omega) (by omega)]; exact a4
            · rw [so, e6 5 (by omega) (by omega) (by omega)]; exact a5
            · rw [so, e6 6 (by omega) (by omega) (by omega)]; exact a6
            · rw [so, e6 7 (by omega) (by omega) (by omega)]; exact a7
            · rw [sx _ (by omega) (by omega), e6 8 (by omega) (by omega) (by omega)]; exact a8
            · rw [so, e6 28 (by omega) (by omega) (by omega)]; exact a9
            · rw [sx _ (by omega) (by omega), e6 33 (by omega) (by omega) (by omega)]; exact b10
            · rw [so, e6 29 (by omega) (by omega) (by omega)]; exact a11
            · rw [so]; exact ww
            · rw [so]; exact tt
            · rw [so]; exact kk
            · rw [sx _ (by omega) (by omega)]; exact s1
            · intro k hk'
              have h1 := e6 (9 + 2 * k) (by omega) (by omega) (by omega)
              have h2 := e6 (10 + 2 * k) (by omega) (by omega) (by omega)
              rw [show b + 70 * i + (9 + 2 * k) = b + 70 * i + 9 + 2 * k by omega] at h1
              rw [show b + 70 * i + (10 + 2 * k) = b + 70 * i + 9 + 2 * k + 1 by omega] at h2
              rw [sx _ (by omega) (by omega), sx _ (by omega) (by omega), h1, h2]
              exact s3 k hk'
            · rw [so, e6 2 (by omega) (by omega) (by omega)]; exact s4
            · rw [so, so, so]; exact s5
            · rw [sx _ (by omega) (by omega)]; exact q1
            · intro k hk'
              have h1 := e6 (34 + k) (by omega) (by omega) (by omega)
              rw [show b + 70 * i + (34 + k) = b + 70 * i + 34 + k by omega] at h1
              rw [sx _ (by omega) (by omega), h1]; exact q3 k hk'
            · rw [so]; exact b4
          · rw [e6 21 (by omega) (by omega) (by omega)]; exact o1
          · rw [e6 24 (by omega) (by omega) (by omega)]; exact o2
          · rw [so]; exact h9
          · rw [so]; exact z10
          · rw [sx _ (by omega) (by omega)]; exact hs
          · rw [snd_7]; simp [sndA, putF, up2_ap]
          · rw [snd_7]; simp [sndA, putF, up2_ap]; exact f1
          · rw [snd_7]; simp [sndA, putF, up2_ap]; exact f2
      · -- it sends nothing
        have ew : w = 0 := by
          rcases hw with ⟨q, _⟩ | ⟨_, q, _⟩ | ⟨_, _, q, _⟩ | ⟨_, _, _, q1, q2, _⟩ | ⟨_, _, _, _, q⟩
          · exact absurd q n21
          · exact absurd q n24
          · exact absurd q n29
          · exact absurd ⟨q1, q2⟩ hB
          · exact q
        have er : r = 0 := by
          rcases hk with ⟨q, _⟩ | ⟨_, q, _⟩ | ⟨_, _, _, q⟩ | ⟨_, _, q1, q2, _⟩
          · exact absurd k0 q
          · exact absurd z10 q
          · exact q
          · exfalso
            have hs : ¬ μ (stA n i + 1) 0 = 0 := fun e => q2.2.2.2 (by rw [e]; decide)
            obtain ⟨f1, f2, f3, v, f4, f5⟩ := hS.first hs
            refine hB ⟨hmb.mp q2, ?_⟩
            rw [← f3, f4]
            rcases Nat.eq_zero_or_pos v with e | e
            · rw [e]; rfl
            · exact absurd (by rw [f4]; exact nI_lt (a := 0) e (by omega)) q1
        subst ew; subst er
        -- the wait, on both sides
        have key : ∃ x, u = up2 (sndF μ (stA n i) 0) (stA n i) 3 x ∧ (∀ j, j ≠ b + 70 * i + 2 → g j = f j) ∧ (¬ μ (stA n i + 1) 0 = 0 → x = g (b + 70 * i + 2) ∧ ∃ v, x = nI v ∧ v < 64) := by
          by_cases hm : mbP μ n (stA n i)
          · have hs : ¬ μ (stA n i + 1) 0 = 0 := fun e => hm.2.2.2 (by rw [e]; decide)
            obtain ⟨f1, f2, f3, v, f4, f5⟩ := hS.first hs
            have hv : 0 < v := by
              rcases Nat.eq_zero_or_pos v with e | e
              · exact absurd ⟨hmb.mp hm, by rw [← f3, f4, e]; rfl⟩ hB
              · exact e
            have hpos : 0 < μ (stA n i) 3 := by rw [f4]; exact nI_lt (a := 0) hv (by omega)
            refine ⟨μ (stA n i) 3 - 1, ?_, ?_, fun _ => ⟨?_, v - 1, ?_, by omega⟩⟩
            · rcases hu with ⟨_, _, _, q⟩ | ⟨q, _⟩
              · exact q
              · exact absurd ⟨rfl, hpos, hm⟩ q
            · intro j hj
              rcases hg with ⟨_, _, q⟩ | ⟨_, _, q⟩ | ⟨q, _⟩ | ⟨q, _⟩ | ⟨q, _⟩ | ⟨q, _⟩
              · rw [q, upd_ne hj]
              · rw [q, upd_ne hj]
              · exact absurd q (by decide)
              · exact absurd q (by decide)
              · exact absurd q (by decide)
              · exact absurd rfl q
            · rcases hg with ⟨_, _, q⟩ | ⟨_, q, _⟩ | ⟨q, _⟩ | ⟨q, _⟩ | ⟨q, _⟩ | ⟨q, _⟩
              · rw [q, upd_at, f3]
              · exact absurd (hmb.mp hm) q
              · exact absurd q (by decide)
              · exact absurd q (by decide)
              · exact absurd q (by decide)
              · exact absurd rfl q
            · rw [f4, show (1 : Int32) = nI 1 from rfl, pk_sub hv]
          · refine ⟨μ (stA n i) 3, ?_, ?_, fun hs => ?_⟩
            · rcases hu with ⟨_, _, q, _⟩ | ⟨_, q⟩
              · exact absurd q hm
              · rw [q]
                funext x y
                rw [up2_ap]
                by_cases e : x = stA n i
                · rw [if_pos e, e]
                  by_cases e2 : y = 3
                  · rw [if_pos e2, e2, snd_k' (by decide)]
                  · rw [if_neg e2]
                · rw [if_neg e]
            · intro j hj
              rcases hg with ⟨_, _, q⟩ | ⟨_, _, q⟩ | ⟨q, _⟩ | ⟨q, _⟩ | ⟨q, _⟩ | ⟨q, _⟩
              · rw [q, upd_ne hj]
              · rw [q, upd_ne hj]
              · exact absurd q (by decide)
              · exact absurd q (by decide)
              · exact absurd q (by decide)
              · exact absurd rfl q
            · obtain ⟨f1, f2, f3, v, f4, f5⟩ := hS.first hs
              refine ⟨?_, v, f4, f5⟩
              rcases hg with ⟨_, q, _⟩ | ⟨_, _, q⟩ | ⟨q, _⟩ | ⟨q, _⟩ | ⟨q, _⟩ | ⟨q, _⟩
              · exact absurd (hmb.mpr q) hm
              · rw [q, upd_at, f3, Int32.sub_zero]
              · exact absurd q (by decide)
              · exact absurd q (by decide)
              · exact absurd q (by decide)
              · exact absurd rfl q
        obtain ⟨x, rfl, hgj, hx⟩ := key
        have so : ∀ k, k ≠ 3 → up2 (sndF μ (stA n i) 0) (stA n i) 3 x (stA n i) k = μ (stA n i) k := fun k hk => by rw [up2_k hk, snd_k' (by decide)]
        have sx : ∀ y, stA n i + 1 ≤ y → y ≤ stA n i + 5 → up2 (sndF μ (stA n i) 0) (stA n i) 3 x y = μ y := fun y h1 h2 => by rw [up2_ne (by omega), snd_ne (by omega) (by omega) (by omega)]
        refine ⟨rfl, ?_, ⟨gg, dd, ?_, ?_, o3, o4, ?_⟩, hP.fr (fun k h1 _ => so k (by omega)) (fun k h1 h2 => hgj _ (by omega)), Or.inl ⟨rfl, hA.fr (so _ (by decide)) (so _ (by decide)) (hgj _ (by omega)) (hgj _ (by omega))⟩, ⟨?_, fun q => absurd rfl q, fun q => absurd q (by decide), fun q => absurd q (by decide), by simp⟩⟩
        · obtain ⟨⟨a1, a2, a3, a4, a5, a6, a7, a8, a9, b10, a11⟩, ww, tt, kk, ⟨s, s1, s2, s3, s4, s5⟩, ⟨hd, q1, q2, q3⟩, b4⟩ := hS
          refine ⟨⟨?_, ?_, ?_, ?_, ?_, ?_, ?_, ?_, ?_, ?_, ?_⟩, ?_, ?_, ?_, ⟨s, ?_, s2, ?_, ?_, ?_⟩, ⟨hd, ?_, q2, ?_⟩, ?_⟩
          · rw [so _ (by decide), hgj _ (by omega)]; exact a1
          · rw [so _ (by decide), hgj _ (by omega)]; exact a2
          · rw [so _ (by decide), hgj _ (by omega)]; exact a3
          · rw [so _ (by decide), hgj _ (by omega)]; exact a4
          · rw [so _ (by decide), hgj _ (by omega)]; exact a5
          · rw [so _ (by decide), hgj _ (by omega)]; exact a6
          · rw [so _ (by decide), hgj _ (by omega)]; exact a7
          · rw [sx _ (by omega) (by omega), hgj _ (by omega)]; exact a8
          · rw [so _ (by decide), hgj _ (by omega)]; exact a9
          · rw [sx _ (by omega) (by omega), hgj _ (by omega)]; exact b10
          · rw [so _ (by decide), hgj _ (by omega)]; exact a11
          · rw [so _ (by decide)]; exact ww
          · rw [so _ (by decide)]; exact tt
          · rw [so _ (by decide)]; exact kk
          · rw [sx _ (by omega) (by omega)]; exact s1
          · intro k hk'; rw [sx _ (by omega) (by omega), sx _ (by omega) (by omega), hgj _ (by omega), hgj _ (by omega)]; exact s3 k hk'
          · intro hp
            rw [up2_at]
            exact hx (by rw [s1]; exact nI_ne0 hp (by omega))
          · rw [so _ (by decide), so _ (by decide), so _ (by decide)]; exact s5
          · rw [sx _ (by omega) (by omega)]; exact q1
          · intro k hk'; rw [sx _ (by omega) (by omega), hgj _ (by omega)]; exact q3 k hk'
          · rw [so _ (by decide)]; exact b4
        · rw [hgj _ (by omega)]; exact o1
        · rw [hgj _ (by omega)]; exact o2
        · rw [up2_ne (by omega)]; exact snd_6
        · rw [up2_ne (by omega), snd_7]; simp [sndA, putF, up2_ap]
    · -- at its letter
      have e29 : f (b + 70 * i + 29) = 1 := by rw [← h10, z10]
      have n10 : ¬ μ (stA n i) 10 = 0 := by rw [z10]; decide
      have h9 : μ (stA n i) 9 = 0 := by
        rcases hA with q | q | q
        · exact q.1
        · exact absurd q.2.2.2 n10
        · exact absurd q.2.2.2 n10
      have hs : ¬ μ (stA n i + 1) 0 = 0 := by
        intro e
        obtain ⟨-, -, -, -, ⟨s, s1, s2, -, -, s5⟩, -⟩ := hS
        have : s = 0 := (nI_eq (by omega) (by omega)).mp (s1.symm.trans (e.trans (rfl : (0 : Int32) = nI 0)))
        exact n10 (s5 this).2.1
      have er : r = 3 := by
        rcases hk with ⟨q, _⟩ | ⟨_, _, q⟩ | ⟨_, q, _⟩ | ⟨_, q, _⟩
        · exact absurd k0 q
        · exact q
        · exact absurd q n10
        · exact absurd q n10
      have ew : w = 3 := by
        rcases hw with ⟨q, _⟩ | ⟨_, q, _⟩ | ⟨_, _, _, q⟩ | ⟨_, _, q, _⟩ | ⟨_, _, q, _⟩
        · exact absurd q n21
        · exact absurd q n24
        · exact q
        · exact absurd e29 q
        · exact absurd e29 q
      subst er; subst ew
      have eu : u = sndF μ (stA n i) 3 := by
        rcases hu with ⟨q, _⟩ | ⟨_, q⟩
        · exact absurd q (by decide)
        · exact q
      rw [eu]
      exact ⟨rfl, send_part hS hs h9 (h26 h9) hO2 hP rfl hg⟩
  · -- a grant is owed
    have h9 : μ (stA n i) 9 = 0 := Classical.byContradiction fun q => absurd (hE q) (by rw [k2]; decide)
    have e21 : f (b + 70 * i + 21) = nI (t + 1) := by rw [o1, og]
    have ew : w = 2 := by
      rcases hw with ⟨_, q⟩ | ⟨q, _⟩ | ⟨q, _⟩ | ⟨q, _⟩ | ⟨q, _⟩
      · exact q
      all_goals exact absurd e21 q
    have er : r = 2 := by
      rcases hk with ⟨_, q⟩ | ⟨q, _⟩ | ⟨q, _⟩ | ⟨q, _⟩
      · rw [q, k2]
      all_goals exact absurd (q.symm.trans k2) (by decide)
    have ewh : whmF f b i (nI (t + 1)) = f (b + 70 * i + 22) := by unfold whmF; rw [if_pos e21]
    have ewd : wdeF f b i (nI (t + 1)) = f (b + 70 * i + 23) := by unfold wdeF; rw [if_pos e21]
    subst ew; subst er
    have eg : g = f := by
      rcases hg with ⟨q, _⟩ | ⟨q, _⟩ | ⟨q, _⟩ | ⟨q, _⟩ | ⟨q, _⟩ | ⟨_, _, _, q⟩
      all_goals first | exact q | exact absurd q (by decide)
    have eu : u = sndF μ (stA n i) 2 := by
      rcases hu with ⟨q, _⟩ | ⟨_, q⟩
      · exact absurd q (by decide)
      · exact q
    rw [eu, eg, ewh, ewd]
    have so : ∀ k, sndF μ (stA n i) 2 (stA n i) k = μ (stA n i) k := fun k => snd_k' (by decide)
    have sx : ∀ x, stA n i + 1 ≤ x → x ≤ stA n i + 5 → sndF μ (stA n i) 2 x = μ x := fun x h1 h2 => snd_ne (by omega) (by omega) (by omega)
    refine ⟨rfl, hS.fr (fun k _ => so k) sx (fun _ _ _ => rfl) (Nat.le_refl D), ⟨gg, dd, o1, o2, o3, o4, snd_6⟩, hP.fr (fun k _ _ => so k) (fun _ _ _ => rfl), Or.inr (Or.inr (Or.inr ⟨Or.inl rfl, ?_, h26 h9⟩)), ⟨?_, fun _ => ?_, fun _ => ?_, fun q => absurd q (by decide), by simp⟩⟩
    · rw [so]; exact h9
    · rw [snd_7]; simp [sndA, putF, up2_ap]; exact k2
    · rw [snd_7]; simp [sndA, putF, up2_ap]; exact ot
    · rw [snd_7]; simp [sndA, putF, up2_ap]; exact ol
  · -- a told is owed
    have h9 : μ (stA n i) 9 = 0 := Classical.byContradiction fun q => absurd (hE q) (by rw [k4]; decide)
    have n21 : ¬ f (b + 70 * i + 21) = nI (t + 1) := by rw [o1]; exact ng og
    have e24 : f (b + 70 * i + 24) = nI (t + 1) := by rw [o2, od]
    have ew : w = 4 := by
      rcases hw with ⟨q, _⟩ | ⟨_, _, q⟩ | ⟨_, q, _⟩ | ⟨_, q, _⟩ | ⟨_, q, _⟩
      · exact absurd q n21
      · exact q
      all_goals exact absurd e24 q
    have er : r = 4 := by
      rcases hk with ⟨_, q⟩ | ⟨q, _⟩ | ⟨q, _⟩ | ⟨q, _⟩
      · rw [q, k4]
      all_goals exact absurd (q.symm.trans k4) (by decide)
    have ewh : whmF f b i (nI (t + 1)) = f (b + 70 * i + 25) := by unfold whmF; rw [if_neg n21, if_pos e24]
    subst ew; subst er
    have eg : g = f := by
      rcases hg with ⟨q, _⟩ | ⟨q, _⟩ | ⟨q, _⟩ | ⟨q, _⟩ | ⟨q, _⟩ | ⟨_, _, _, q⟩
      all_goals first | exact q | exact absurd q (by decide)
    have eu : u = sndF μ (stA n i) 4 := by
      rcases hu with ⟨q, _⟩ | ⟨_, q⟩
      · exact absurd q (by decide)
      · exact q
    rw [eu, eg, ewh]
    have so : ∀ k, sndF μ (stA n i) 4 (stA n i) k = μ (stA n i) k := fun k => snd_k' (by decide)
    have sx : ∀ x, stA n i + 1 ≤ x → x ≤ stA n i + 5 → sndF μ (stA n i) 4 x = μ x := fun x h1 h2 => snd_ne (by omega) (by omega) (by omega)
    refine ⟨rfl, hS.fr (fun k _ => so k) sx (fun _ _ _ => rfl) (Nat.le_refl D), ⟨gg, dd, o1, o2, o3, o4, snd_6⟩, hP.fr (fun k _ _ => so k) (fun _ _ _ => rfl), Or.inr (Or.inr (Or.inr ⟨Or.inr (Or.inl rfl), ?_, h26 h9⟩)), ⟨?_, fun _ => ?_, fun q => absurd q (by decide), fun q => absurd q (by decide), by simp⟩⟩
    · rw [so]; exact h9
    · rw [snd_7]; simp [sndA, putF, up2_ap]; exact k4
    · rw [snd_7]; simp [sndA, putF, up2_ap]; exact ot
