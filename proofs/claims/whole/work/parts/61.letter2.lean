/-! letter: a row grows -/
def adF (f : Nat → Int32) (c s : Nat) (to l : Int32) : Nat → Int32 := upd (upd (upd f (c + 9 + 2 * s) to) (c + 9 + 2 * s + 1) l) (c + 8) (nI (s + 1))
theorem adF_ne {f : Nat → Int32} {c s j : Nat} {to l : Int32} (h1 : j ≠ c + 9 + 2 * s) (h2 : j ≠ c + 9 + 2 * s + 1) (h3 : j ≠ c + 8) : adF f c s to l j = f j := by
  unfold adF; rw [upd_ne h3, upd_ne h2, upd_ne h1]
theorem add_o {μ : Mem} {o s x : Nat} {to l : Int32} (h1 : x ≠ o + 1) (h2 : x ≠ o + 2) (h3 : x ≠ o + 3) : addF μ (o + 1) s to l x = μ x := by
  unfold addF; rw [up2_ne h1, up2_ne (by omega), up2_ne (by omega)]
theorem adF_c {f : Nat → Int32} {c s k : Nat} {to l : Int32} (hs : s < 6) (hk : k < 8 ∨ 21 ≤ k) : adF f c s to l (c + k) = f (c + k) := adF_ne (by omega) (by omega) (by omega)

