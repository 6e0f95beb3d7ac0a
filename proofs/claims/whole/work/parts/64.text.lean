/-! a number in a text: tx its letters, l how many; ndg how many figures stand at p (at most d), nvl their value behind v -/
abbrev dgP (tx : Nat → Nat) (l p : Nat) : Prop := p < l ∧ 48 ≤ tx p ∧ tx p ≤ 57
def ndg (tx : Nat → Nat) (l : Nat) : Nat → Nat → Nat
  | 0, _ => 0
  | d + 1, p => if dgP tx l p then ndg tx l d (p + 1) + 1 else 0
def nvl (tx : Nat → Nat) (l : Nat) : Nat → Nat → Nat → Nat
  | 0, _, v => v
  | d + 1, p, v => if dgP tx l p then nvl tx l d (p + 1) (10 * v + (tx p - 48)) else v
theorem ndg_le {tx : Nat → Nat} {l : Nat} : ∀ d p, p ≤ l → p + ndg tx l d p ≤ l
  | 0, p, h => by unfold ndg; omega
  | d + 1, p, h => by
    unfold ndg
    split
    · rename_i c
      have := ndg_le (tx := tx) (l := l) d (p + 1) (by have := c.1; omega)
      omega
    · omega
theorem ndg_d {tx : Nat → Nat} {l : Nat} : ∀ d p, ndg tx l d p ≤ d
  | 0, p => by unfold ndg; omega
  | d + 1, p => by
    unfold ndg
    split
    · have := ndg_d (tx := tx) (l := l) d (p + 1); omega
    · omega
theorem nvl_lt {tx : Nat → Nat} {l : Nat} : ∀ d p v, nvl tx l d p v < (v + 1) * 10 ^ d
  | 0, p, v => by unfold nvl; omega
  | d + 1, p, v => by
    unfold nvl
    split
    · rename_i c
      have := nvl_lt (tx := tx) (l := l) d (p + 1) (10 * v + (tx p - 48))
      refine Nat.lt_of_lt_of_le this ?_
      rw [Nat.pow_succ, Nat.mul_comm (10 ^ d) 10, ← Nat.mul_assoc]
      exact Nat.mul_le_mul_right _ (by have := c.2.2; omega)
    · rw [Nat.pow_succ]
      have : 0 < 10 ^ d := Nat.pow_pos (by decide)
      calc v < v + 1 := by omega
        _ ≤ (v + 1) * (10 ^ d * 10) := Nat.le_mul_of_pos_right _ (by omega)
def nE (tx : Nat → Nat) (l p : Nat) : Nat := p + ndg tx l 4 p
def nV (tx : Nat → Nat) (l p : Nat) : Nat := nvl tx l 4 p 0
def lat (tx : Nat → Nat) (l p : Nat) : Nat := if p < l then tx p else 0
def TX (tx : Nat → Nat) (l : Nat) : Prop := l ≤ 200 ∧ ∀ k, k < l → 32 ≤ tx k ∧ tx k ≤ 126
theorem nV_lt {tx : Nat → Nat} {l p : Nat} : nV tx l p ≤ 9999 := by
  have := nvl_lt (tx := tx) (l := l) 4 p 0
  unfold nV; omega
theorem nE_le {tx : Nat → Nat} {l p : Nat} (h : p ≤ l) : nE tx l p ≤ l := ndg_le 4 p h
theorem nE_4 {tx : Nat → Nat} {l p : Nat} : nE tx l p ≤ p + 4 := by have := ndg_d (tx := tx) (l := l) 4 p; unfold nE; omega
theorem nE_ge {tx : Nat → Nat} {l p : Nat} : p ≤ nE tx l p := by unfold nE; omega
theorem lat_lt {tx : Nat → Nat} {l p : Nat} (h : TX tx l) : lat tx l p ≤ 126 := by
  unfold lat; split
  · rename_i c; exact (h.2 p c).2
  · omega
theorem lat_dg {tx : Nat → Nat} {l p : Nat} : dgP tx l p ↔ 48 ≤ lat tx l p ∧ lat tx l p ≤ 57 := by
  unfold lat dgP; split <;> omega
theorem lat_is {tx : Nat → Nat} {l p c : Nat} (hc : 0 < c) : lat tx l p = c ↔ p < l ∧ tx p = c := by
  unfold lat; split <;> omega
