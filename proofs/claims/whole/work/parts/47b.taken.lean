/-! how often each try has come through: never below zero -/
def TKc (μ : Mem) (n B : Nat) : Prop := ∀ k, 1 ≤ k → k ≤ 9 → ∃ c, μ (n + 1) k = nI c ∧ c ≤ B
theorem lsnF_t {μ : Mem} {n i m s t h : Nat} : lsnF μ n i m s t h (n + 1) = μ (n + 1) ∨ lsnF μ n i m s t h (n + 1) = upd (μ (n + 1)) (t + 1) (μ (n + 1) (t + 1) + 1) := by
  have hst : n + 1 < stA n i := by unfold stA; omega
  have hg : ∀ j, (gfF μ n i j h).2 (n + 1) = μ (n + 1) := by
    intro j; unfold gfF; split
    · exact takF_ne (by omega) (by omega)
    · exact ovhF_ne (by omega) (by omega) (by omega)
  unfold lsnF
  split
  · refine Or.inl ?_
    unfold awtF; split
    · exact up2_ne (by omega)
    · split
      · exact up2_ne (by omega)
      · rfl
  · split
    · refine Or.inl ?_
      split
      · rw [dwF_ne (by omega), fl_x (by omega) (by omega) (by omega) (by omega), up2_ne (by omega)]
      · exact up2_ne (by omega)
    · split
      · refine Or.inl ?_
        split
        · rw [dwF_ne (by omega), fl_x (by omega) (by omega) (by omega) (by omega)]
        · rfl
      · split
        · refine Or.inr ?_
          rw [dwF_ne (by omega), cls_x (by omega) (by omega) (by omega) (by omega)]
          unfold tsF
          rw [up2_ne (by omega), up2_row, hg]
        · refine Or.inl ?_
          split
          · rw [dwF_ne (by omega), fl_x (by omega) (by omega) (by omega) (by omega), hg]
          · exact hg _
theorem TKc.row {μ u : Mem} {n B : Nat} (h : u (n + 1) = μ (n + 1)) (hT : TKc μ n B) : TKc u n B := by
  unfold TKc; rw [h]; exact hT
theorem TKc.mono {μ : Mem} {n B B' : Nat} (h : B ≤ B') (hT : TKc μ n B) : TKc μ n B' := by
  intro k h1 h2
  obtain ⟨c, c1, c2⟩ := hT k h1 h2
  exact ⟨c, c1, by omega⟩
theorem TKc.lsn {μ : Mem} {n i m s t h B : Nat} (hT : TKc μ n B) : TKc (lsnF μ n i m s t h) n (B + 1) := by
  rcases lsnF_t (μ := μ) (n := n) (i := i) (m := m) (s := s) (t := t) (h := h) with q | q
  · exact (hT.row q).mono (by omega)
  · intro k h1 h2
    rw [q, upd_ap]
    obtain ⟨c, c1, c2⟩ := hT k h1 h2
    by_cases e : k = t + 1
    · rw [if_pos e, ← e, c1]; exact ⟨c + 1, nI_add c 1, by omega⟩
    · rw [if_neg e]; exact ⟨c, c1, by omega⟩
theorem TKc.lsM {μ : Mem} {n B : Nat} (hT : TKc μ n B) : ∀ k, TKc (lsM μ n k) n (B + k)
  | 0 => hT
  | k + 1 => (TKc.lsM hT k).lsn
theorem TKc.slt {μ : Mem} {n N B : Nat} (hN : N ≤ 6) (hT : TKc μ n B) : TKc (sltF μ n N) n (B + 6) := by
  have h : TKc (sltM μ n N) n B := hT.row (by unfold sltM; rw [up2_ne (by omega), up2_ne (by omega), saM_x _ (Or.inl (by omega))])
  exact (h.lsM N).mono (by omega)
theorem TKc.pas {μ : Mem} {n N B : Nat} (hN : N ≤ 6) (hT : TKc μ n B) : ∀ q, TKc (pasF μ n N q) n (B + 6 * q)
  | 0 => hT
  | q + 1 => ((TKc.pas hN hT q).slt hN).mono (by omega)
theorem TKc.mv {μ μ' : Mem} {n n' B : Nat} (hC : NCP μ' n' μ n) (hT : TKc μ n B) : TKc μ' n' B := by
  intro k h1 h2
  rw [hC.2.1 k (by omega)]; exact hT k h1 h2
def NB (μ : Mem) (n : Nat) (ν : Mem) (b N t D : Nat) : Prop := NR μ n ν b N t D ∧ TKc μ n (6 * t)
theorem NB.mv {μ μ' ν ν' : Mem} {n n' b b' N t D D' : Nat} (hC : NCP μ' n' μ n) (h0 : ∀ k, 2 ≤ k → k ≤ 6 → ν' 0 k = ν 0 k) (hf : ∀ j, j < 440 → ν' 2 (b' + j) = ν 2 (b + j)) (hD : D ≤ D') (h : NB μ n ν b N t D) : NB μ' n' ν' b' N t D' := ⟨h.1.mv hC h0 hf hD, h.2.mv hC⟩
