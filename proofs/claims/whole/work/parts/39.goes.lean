/-! the reference's slot as functions: goes -/
noncomputable def syW (f : Nat → Int32) (b i : Nat) (sl as : Int32) : Int32 := if f (b + 70 * i + 21) = sl then 2 else if f (b + 70 * i + 24) = sl then 4 else if f (b + 70 * i + 29) = 1 then 3 else @ite _ (mb2P f b i sl ∧ f (b + 70 * i + 2) = 0) (Classical.propDecidable _) (if f (b + 70 * i + 10) < as then 3 else 1) 0
theorem syW_ok (f : Nat → Int32) (b i : Nat) (sl as : Int32) : wtP f b i sl as (syW f b i sl as) := by
  unfold syW wtP
  by_cases h1 : f (b + 70 * i + 21) = sl
  · rw [if_pos h1]; exact Or.inl ⟨h1, rfl⟩
  rw [if_neg h1]
  by_cases h2 : f (b + 70 * i + 24) = sl
  · rw [if_pos h2]; exact Or.inr (Or.inl ⟨h1, h2, rfl⟩)
  rw [if_neg h2]
  by_cases h3 : f (b + 70 * i + 29) = 1
  · rw [if_pos h3]; exact Or.inr (Or.inr (Or.inl ⟨h1, h2, h3, rfl⟩))
  rw [if_neg h3]
  by_cases h4 : mb2P f b i sl ∧ f (b + 70 * i + 2) = 0
  · rw [if_pos h4]; exact Or.inr (Or.inr (Or.inr (Or.inl ⟨h1, h2, h3, h4.1, h4.2, rfl⟩)))
  · rw [if_neg h4]; exact Or.inr (Or.inr (Or.inr (Or.inr ⟨h1, h2, h3, h4, rfl⟩)))
theorem syW_eq {f : Nat → Int32} {b i : Nat} {sl as w : Int32} (h : wtP f b i sl as w) : w = syW f b i sl as := by
  unfold syW
  rcases h with ⟨h1, h2⟩ | ⟨h1, h2, h3⟩ | ⟨h1, h2, h3, h4⟩ | ⟨h1, h2, h3, h4, h5, h6⟩ | ⟨h1, h2, h3, h4, h5⟩
  · rw [if_pos h1, h2]
  · rw [if_neg h1, if_pos h2, h3]
  · rw [if_neg h1, if_neg h2, if_pos h3, h4]
  · rw [if_neg h1, if_neg h2, if_neg h3, if_pos ⟨h4, h5⟩, h6]
  · rw [if_neg h1, if_neg h2, if_neg h3, if_neg h4, h5]
noncomputable def sdsF (f : Nat → Int32) (b i : Nat) (sl w wd : Int32) : Nat → Int32 := if w = 0 then upd f (b + 70 * i + 2) (f (b + 70 * i + 2) - @ite _ (mb2P f b i sl) (Classical.propDecidable _) 1 0) else if w = 1 then upd (upd f (b + 70 * i + 26) 1) (b + 70 * i + 27) (sl + 1) else if w = 3 then (if wd ≤ f (b + 70 * i + 28) + 1 then upd (upd (upd (upd f (b + 70 * i + 28) (f (b + 70 * i + 28) + 1)) (b + 70 * i + 29) 0) (b + 70 * i + 26) 2) (b + 70 * i + 27) (sl + 1) else upd (upd f (b + 70 * i + 28) (f (b + 70 * i + 28) + 1)) (b + 70 * i + 29) 1) else f
theorem sdsF_eq {f g : Nat → Int32} {b i : Nat} {sl w wd : Int32} (h : sdsP f b i sl w wd g) : g = sdsF f b i sl w wd := by
  unfold sdsF
  rcases h with ⟨h1, h2, h3⟩ | ⟨h1, h2, h3⟩ | ⟨h1, h3⟩ | ⟨h1, h2, h3⟩ | ⟨h1, h2, h3⟩ | ⟨h1, h2, h3, h4⟩
  · rw [if_pos h1, if_pos h2, h3]
  · rw [if_pos h1, if_neg h2, h3]
  · rw [if_neg (by rw [h1]; decide), if_pos h1, h3]
  · rw [if_neg (by rw [h1]; decide), if_neg (by rw [h1]; decide), if_pos h1, if_pos h2, h3]
  · rw [if_neg (by rw [h1]; decide), if_neg (by rw [h1]; decide), if_pos h1, if_neg h2, h3]
  · rw [if_neg h1, if_neg h2, if_neg h3, h4]
theorem sdsF_ok (f : Nat → Int32) (b i : Nat) (sl w wd : Int32) : sdsP f b i sl w wd (sdsF f b i sl w wd) := by
  unfold sdsF sdsP
  by_cases h0 : w = 0
  · rw [if_pos h0]
    by_cases hm : mb2P f b i sl
    · rw [if_pos hm]; exact Or.inl ⟨h0, hm, rfl⟩
    · rw [if_neg hm]; exact Or.inr (Or.inl ⟨h0, hm, rfl⟩)
  rw [if_neg h0]
  by_cases h1 : w = 1
  · rw [if_pos h1]; exact Or.inr (Or.inr (Or.inl ⟨h1, rfl⟩))
  rw [if_neg h1]
  by_cases h3 : w = 3
  · rw [if_pos h3]
    by_cases hc : wd ≤ f (b + 70 * i + 28) + 1
    · rw [if_pos hc]; exact Or.inr (Or.inr (Or.inr (Or.inl ⟨h3, hc, rfl⟩)))
    · rw [if_neg hc]; exact Or.inr (Or.inr (Or.inr (Or.inr (Or.inl ⟨h3, hc, rfl⟩))))
  · rw [if_neg h3]; exact Or.inr (Or.inr (Or.inr (Or.inr (Or.inr ⟨h0, h1, h3, rfl⟩))))
/-- the arrays behind k says -/
noncomputable def syA (ν : Mem) (b : Nat) (sl : Int32) (k : Nat) : Mem := fun x => if x = 5 then (fun j => if j < k then syW (ν 2) b j sl (ν 0 5) else ν 5 j) else if x = 6 then (fun j => if j < k then whmF (ν 2) b j sl else ν 6 j) else if x = 7 then (fun j => if j < k then wdeF (ν 2) b j sl else ν 7 j) else if x = 8 then (fun j => if j < k then ν 2 (b + 70 * j + 28) else ν 8 j) else ν x
theorem syA_0 {ν : Mem} {b : Nat} {sl : Int32} : syA ν b sl 0 = ν := by
  funext x y; unfold syA
  by_cases e5 : x = 5
  · simp [e5]
  by_cases e6 : x = 6
  · simp [e6]
  by_cases e7 : x = 7
  · simp [e7]
  by_cases e8 : x = 8
  · simp [e8]
  simp [e5, e6, e7, e8]
theorem syA_ne {ν : Mem} {b k x : Nat} {sl : Int32} (h : x < 5) : syA ν b sl k x = ν x := by
  unfold syA; rw [if_neg (by omega), if_neg (by omega), if_neg (by omega), if_neg (by omega)]
theorem fun_s {F : Nat → Int32} {G : Nat → Int32} {k : Nat} {v : Int32} (hv : v = F k) : upd (fun j => if j < k then F j else G j) k v = fun j => if j < k + 1 then F j else G j := by
  funext j
  rw [upd_ap]
  by_cases e : j = k
  · rw [if_pos e, if_pos (by omega), hv, e]
  · rw [if_neg e]
    by_cases h : j < k
    · rw [if_pos h, if_pos (by omega)]
    · rw [if_neg h, if_neg (by omega)]
theorem syA_s {ν : Mem} {b k : Nat} {sl w : Int32} (hw : w = syW (ν 2) b k sl (ν 0 5)) : sayF (syA ν b sl k) k w (whmF (ν 2) b k sl) (wdeF (ν 2) b k sl) (ν 2 (b + 70 * k + 28)) = syA ν b sl (k + 1) := by
  refine (sayF_eq (fun x e5 e6 e7 e8 => ?_) ?_ ?_ ?_ ?_).symm
  · unfold syA; rw [if_neg e5, if_neg e6, if_neg e7, if_neg e8, if_neg e5, if_neg e6, if_neg e7, if_neg e8]
  · exact (fun_s hw).symm
  · exact (fun_s (F := fun j => whmF (ν 2) b j sl) rfl).symm
  · exact (fun_s (F := fun j => wdeF (ν 2) b j sl) rfl).symm
  · exact (fun_s (F := fun j => ν 2 (b + 70 * j + 28)) rfl).symm
noncomputable def syK (f : Nat → Int32) (b : Nat) (sl as : Int32) : Nat → Int32
  | 0 => 0
  | k + 1 => syK f b sl as k ||| (if syW f b k sl as ≤ 0 then (0 : Int32) else (1 : Int32) <<< (nI k &&& 31))
noncomputable def sdM (f : Nat → Int32) (b : Nat) (sl as : Int32) : Nat → Nat → Int32
  | 0 => f
  | k + 1 => sdsF (sdM f b sl as k) b k sl (syW f b k sl as) (wdeF f b k sl)
def gt1 (ν : Mem) (f : Nat → Int32) (b i : Nat) (sl sd : Int32) : Nat → Int32 := gtsF ν f b i (f (b + 420 + i) &&& sd).toNatClampNeg ((f (b + 70 * i + 8)).toNatClampNeg - 1) (f (b + 70 * i + 1)).toNatClampNeg (f (b + 70 * i + 33)).toNatClampNeg sl sd
def gtM (ν : Mem) (f : Nat → Int32) (b : Nat) (sl sd : Int32) : Nat → Nat → Int32
  | 0 => f
  | k + 1 => gt1 ν (gtM ν f b sl sd k) b k sl sd
def PreG (ν : Mem) (f : Nat → Int32) (b i : Nat) (sd : Int32) : Prop := (∃ m, m < 64 ∧ f (b + 420 + i) &&& sd = nI m ∧ (¬ m = 0 → ¬ sd >>> (nI i &&& 31) &&& 1 = 1 → (ν 5 (lowF (nI m)).toNatClampNeg = 1 ∨ ν 5 (lowF (nI m)).toNatClampNeg = 2 ∨ ν 5 (lowF (nI m)).toNatClampNeg = 3 ∨ ν 5 (lowF (nI m)).toNatClampNeg = 4))) ∧ (¬ f (b + 70 * i + 26) ≤ 0 → ∃ s, s < 6 ∧ f (b + 70 * i + 8) = nI (s + 1)) ∧ ¬ ν 0 3 = 0 ∧ ¬ ν 0 4 = 0 ∧ ¬ 2 * f (b + 70 * i) = 0 ∧ (∃ t, f (b + 70 * i + 1) = nI t ∧ t < 9) ∧ (∃ h, f (b + 70 * i + 33) = nI h ∧ h ≤ 6)
theorem c_X7_gets1 {ν : Mem} {r i : Nat} {sl sd : Int32} (hr : r < 3) (hi : i < 6) (h : PreG ν (ν 2) (440 * r) i sd) : Con shM mX7_gets [.ref 0, .int (nI r), .int (nI i), .int sl, .int sd] ν (fun _ u => u = upA ν 2 (gt1 ν (ν 2) (440 * r) i sl sd)) := by
  obtain ⟨⟨m, m1, m2, m3⟩, hs, hL, hM, hw, ⟨t, t1, t2⟩, ⟨hd, q1, q2⟩⟩ := h
  have e : gt1 ν (ν 2) (440 * r) i sl sd = gtsF ν (ν 2) (440 * r) i m ((ν 2 (440 * r + 70 * i + 8)).toNatClampNeg - 1) t hd sl sd := by
    unfold gt1; rw [m2, t1, q1, nI_clamp (by omega), nI_clamp (by omega), nI_clamp (by omega)]
  rw [e]
  refine c_X7_gets hr hi m1 m2 m3 (fun q => ?_) hL hM hw t1 t2 q1 q2
  obtain ⟨s, s1, s2⟩ := hs q
  rw [s2, nI_clamp (by omega)]
  exact ⟨by omega, rfl⟩
set_option maxHeartbeats 4000000 in
set_option maxRecDepth 100000 in
theorem l1_X7_goes {ν : Mem} {r N : Nat} {sl : Int32} (hr : r < 3) (h0 : ν 0 2 = nI N) (hN : N ≤ 6) {Q : Int32 → Mem → Prop} (hQ : AW shM mX7_goes 66 [some (.ref 0), some (.int (nI r)), some (.int sl), some (.int (syK (ν 2) (440 * r) sl (ν 0 5) N)), some (.int (nI N))] [] (syA ν (440 * r) sl N) Q) : ∀ d i : Nat, i + d = N → AW shM mX7_goes 22 [some (.ref 0), some (.int (nI r)), some (.int sl), some (.int (syK (ν 2) (440 * r) sl (ν 0 5) i)), some (.int (nI i))] [] (syA ν (440 * r) sl i) Q := by
  have m0 : shM[0]? = some (7, 18, [none, some 1, none, none, none, none, none, some 2, some 3, none, none, some 4, none, none, some 5, some 6, some 7, some 8]) := rfl
  have m1 : shM[1]? = some (100, 200, []) := rfl
  have m2 : shM[2]? = some (100, 1320, []) := rfl
  have m3 : shM[3]? = some (100, 1760, []) := rfl
  have m4 : shM[4]? = some (100, 4, []) := rfl
  have m5 : shM[5]? = some (100, 6, []) := rfl
  have m6 : shM[6]? = some (100, 6, []) := rfl
  have m7 : shM[7]? = some (100, 6, []) := rfl
  have m8 : shM[8]? = some (100, 6, []) := rfl
  intro d
  induction d with
  | zero =>
    intro i hd
    refine a_iload (pc := 22) dX7_goes_22 rfl ?_
    refine a_aload_n (pc := 24) dX7_goes_24 rfl rfl ?_
    refine a_geti (pc := 25) fl_X7_56 (by assumption) (by decide) (by rfl) dX7_goes_25 ?_
    refine a_top (y := nI N) (by first | (rw [syA_ne (by omega)]; exact h0)) ?_
    refine a_icmp_ge (pc := 28) (tgt := 66) dX7_goes_28 (by decide) (fun c_28 => ?_) (fun c_28 => ?_)
    · have e : i = N := by omega
      subst e
      exact hQ
    · exact absurd (lt_of_not_ge' (by omega) (by omega) c_28) (by omega)
  | succ d ih =>
    intro i hd
    refine a_iload (pc := 22) dX7_goes_22 rfl ?_
    refine a_aload_n (pc := 24) dX7_goes_24 rfl rfl ?_
    refine a_geti (pc := 25) fl_X7_56 (by assumption) (by decide) (by rfl) dX7_goes_25 ?_
    refine a_top (y := nI N) (by first | (rw [syA_ne (by omega)]; exact h0)) ?_
    refine a_icmp_ge (pc := 28) (tgt := 66) dX7_goes_28 (by decide) (fun c_28 => ?_) (fun c_28 => ?_)
    · exact absurd (le_of_ge' (by omega) (by omega) c_28) (by omega)
    · refine a_aload_n (pc := 31) dX7_goes_31 rfl rfl ?_
      refine a_iload_n (pc := 32) dX7_goes_32 rfl rfl ?_
      refine a_iload (pc := 33) dX7_goes_33 rfl ?_
      refine a_iload_n (pc := 35) dX7_goes_35 rfl rfl ?_
      refine a_callV3 (pc := 36) ck_X7_166 ⟨(Nat.le_of_ble_eq_true rfl), (Nat.le_of_ble_eq_true rfl)⟩ (by assumption) (by decide) (Nat.le_of_ble_eq_true rfl) dX7_goes_36 rfl (c_X7_says hr (by omega)) ?_
      rintro u ⟨h1, h2⟩
      have e0 : syA ν (440 * r) sl i 2 = ν 2 := syA_ne (by omega)
      have e00 : syA ν (440 * r) sl i 0 = ν 0 := syA_ne (by omega)
      rw [e0, e00] at h2
      rw [e0] at h1
      have hw := syW_eq h2
      rw [syA_s hw] at h1
      subst h1
      refine a_iload_n (pc := 39) dX7_goes_39 rfl rfl ?_
      refine a_aload_n (pc := 40) dX7_goes_40 rfl rfl ?_
      refine a_getr (pc := 41) fl_X7_22 (by assumption) (by decide) (by rfl) dX7_goes_41 ?_
      refine a_iload (pc := 44) dX7_goes_44 rfl ?_
      refine a_iald (pc := 46)  (by assumption) rfl (by omega) (by decide) dX7_goes_46 ?_
      refine a_top (y := (syW (ν 2) (440 * r) i sl (ν 0 5))) (by rw [← hw]) ?_
      refine a_if_le (pc := 47) (tgt := 57) dX7_goes_47 (by decide) (fun c_47 => ?_) (fun c_47 => ?_)
      · refine a_iconst (pc := 57) (v := 0) dX7_goes_57 (by decide) ?_
        refine a_ior (pc := 58) dX7_goes_58 ?_
        refine a_istore_n (pc := 59) (al' := [some (.ref _), some (.int _), some (.int _), some (.int _), some (.int _)]) dX7_goes_59 rfl (by decide) rfl rfl ?_
        refine a_iincN (pc := 60) (m := 1) (al' := [some (.ref _), some (.int _), some (.int _), some (.int _), some (.int _)]) dX7_goes_60 rfl (by decide) rfl rfl ?_
        refine a_goto (pc := 63) (tgt := 22) dX7_goes_63 (by decide) ?_
        refine AW.cast (ih (i + 1) (by omega)) rfl ?_ rfl rfl
        simp_all [syK, -Int32.not_lt, -Int32.not_le]
      · refine a_iconst (pc := 50) (v := 1) dX7_goes_50 (by decide) ?_
        refine a_iload (pc := 51) dX7_goes_51 rfl ?_
        refine a_ishl (pc := 53) dX7_goes_53 ?_
        refine a_goto (pc := 54) (tgt := 58) dX7_goes_54 (by decide) ?_
        refine a_ior (pc := 58) dX7_goes_58 ?_
        refine a_istore_n (pc := 59) (al' := [some (.ref _), some (.int _), some (.int _), some (.int _), some (.int _)]) dX7_goes_59 rfl (by decide) rfl rfl ?_
        refine a_iincN (pc := 60) (m := 1) (al' := [some (.ref _), some (.int _), some (.int _), some (.int _), some (.int _)]) dX7_goes_60 rfl (by decide) rfl rfl ?_
        refine a_goto (pc := 63) (tgt := 22) dX7_goes_63 (by decide) ?_
        refine AW.cast (ih (i + 1) (by omega)) rfl ?_ rfl rfl
        simp_all [syK, -Int32.not_lt, -Int32.not_le]
theorem syA_5 {ν : Mem} {b k i : Nat} {sl : Int32} (h : i < k) : syA ν b sl k 5 i = syW (ν 2) b i sl (ν 0 5) := by simp [syA, h]
theorem syA_6 {ν : Mem} {b k i : Nat} {sl : Int32} (h : i < k) : syA ν b sl k 6 i = whmF (ν 2) b i sl := by simp [syA, h]
theorem syA_7 {ν : Mem} {b k i : Nat} {sl : Int32} (h : i < k) : syA ν b sl k 7 i = wdeF (ν 2) b i sl := by simp [syA, h]
theorem syA_8 {ν : Mem} {b k i : Nat} {sl : Int32} (h : i < k) : syA ν b sl k 8 i = ν 2 (b + 70 * i + 28) := by simp [syA, h]
set_option maxHeartbeats 4000000 in
set_option maxRecDepth 100000 in
theorem l2_X7_goes {ν : Mem} {r N : Nat} {sl sd : Int32} (hr : r < 3) (h0 : ν 0 2 = nI N) (hN : N ≤ 6) {Q : Int32 → Mem → Prop} (hQ : AW shM mX7_goes 92 [some (.ref 0), some (.int (nI r)), some (.int sl), some (.int sd), some (.int (nI N))] [] (upA (syA ν (440 * r) sl N) 2 (sdM (ν 2) (440 * r) sl (ν 0 5) N)) Q) : ∀ d i : Nat, i + d = N → AW shM mX7_goes 69 [some (.ref 0), some (.int (nI r)), some (.int sl), some (.int sd), some (.int (nI i))] [] (upA (syA ν (440 * r) sl N) 2 (sdM (ν 2) (440 * r) sl (ν 0 5) i)) Q := by
  have m0 : shM[0]? = some (7, 18, [none, some 1, none, none, none, none, none, some 2, some 3, none, none, some 4, none, none, some 5, some 6, some 7, some 8]) := rfl
  have m1 : shM[1]? = some (100, 200, []) := rfl
  have m2 : shM[2]? = some (100, 1320, []) := rfl
  have m3 : shM[3]? = some (100, 1760, []) := rfl
  have m4 : shM[4]? = some (100, 4, []) := rfl
  have m5 : shM[5]? = some (100, 6, []) := rfl
  have m6 : shM[6]? = some (100, 6, []) := rfl
  have m7 : shM[7]? = some (100, 6, []) := rfl
  have m8 : shM[8]? = some (100, 6, []) := rfl
  intro d
  induction d with
  | zero =>
    intro i hd
    refine a_iload (pc := 69) dX7_goes_69 rfl ?_
    refine a_aload_n (pc := 71) dX7_goes_71 rfl rfl ?_
    refine a_geti (pc := 72) fl_X7_56 (by assumption) (by decide) (by rfl) dX7_goes_72 ?_
    refine a_top (y := nI N) (by rw [upA_ne (by decide), syA_ne (by omega)]; exact h0) ?_
    refine a_icmp_ge (pc := 75) (tgt := 92) dX7_goes_75 (by decide) (fun c_75 => ?_) (fun c_75 => ?_)
    · have e : i = N := by omega
      subst e
      exact hQ
    · exact absurd (lt_of_not_ge' (by omega) (by omega) c_75) (by omega)
  | succ d ih =>
    intro i hd
    refine a_iload (pc := 69) dX7_goes_69 rfl ?_
    refine a_aload_n (pc := 71) dX7_goes_71 rfl rfl ?_
    refine a_geti (pc := 72) fl_X7_56 (by assumption) (by decide) (by rfl) dX7_goes_72 ?_
    refine a_top (y := nI N) (by rw [upA_ne (by decide), syA_ne (by omega)]; exact h0) ?_
    refine a_icmp_ge (pc := 75) (tgt := 92) dX7_goes_75 (by decide) (fun c_75 => ?_) (fun c_75 => ?_)
    · exact absurd (le_of_ge' (by omega) (by omega) c_75) (by omega)
    · refine a_aload_n (pc := 78) dX7_goes_78 rfl rfl ?_
      refine a_iload_n (pc := 79) dX7_goes_79 rfl rfl ?_
      refine a_iload (pc := 80) dX7_goes_80 rfl ?_
      refine a_iload_n (pc := 82) dX7_goes_82 rfl rfl ?_
      refine a_callV3 (pc := 83) ck_X7_169 ⟨(Nat.le_of_ble_eq_true rfl), (Nat.le_of_ble_eq_true rfl)⟩ (by assumption) (by decide) (Nat.le_of_ble_eq_true rfl) dX7_goes_83 rfl (c_X7_sends hr (by omega)) ?_
      rintro u ⟨h1, h2⟩
      rw [upA_at, upA_ne (by decide), upA_ne (by decide), syA_5 (by omega), syA_7 (by omega)] at h2
      have e2 := sdsF_eq h2
      rw [upA_upA, e2] at h1
      subst h1
      refine a_iincN (pc := 86) (m := 1) (al' := [some (.ref _), some (.int _), some (.int _), some (.int _), some (.int _)]) dX7_goes_86 rfl (by decide) rfl rfl ?_
      refine a_goto (pc := 89) (tgt := 69) dX7_goes_89 (by decide) ?_
      exact ih (i + 1) (by omega)
theorem gts_fr {ν ν' : Mem} {f : Nat → Int32} {b i : Nat} {sl sd : Int32} (h : ∀ x, x ≠ 2 → ν' x = ν x) : gt1 ν' f b i sl sd = gt1 ν f b i sl sd := by
  unfold gt1 gtsF gotF
  rw [h 0 (by decide), h 5 (by decide), h 6 (by decide), h 7 (by decide), h 8 (by decide)]
theorem preG_fr {ν ν' : Mem} {f : Nat → Int32} {b i : Nat} {sd : Int32} (h : ∀ x, x ≠ 2 → ν' x = ν x) (hp : PreG ν f b i sd) : PreG ν' f b i sd := by
  unfold PreG at hp ⊢
  rw [h 0 (by decide), h 5 (by decide)]
  exact hp
set_option maxHeartbeats 4000000 in
set_option maxRecDepth 100000 in
theorem l3_X7_goes {ν : Mem} {f : Nat → Int32} {r N : Nat} {sl sd : Int32} (hr : r < 3) (h0 : ν 0 2 = nI N) (hN : N ≤ 6) (hp : ∀ k, k < N → PreG ν (gtM ν f (440 * r) sl sd k) (440 * r) k sd) {Q : Int32 → Mem → Prop} (hQ : AW shM mX7_goes 119 [some (.ref 0), some (.int (nI r)), some (.int sl), some (.int sd), some (.int (nI N))] [] (upA ν 2 (gtM ν f (440 * r) sl sd N)) Q) : ∀ d i : Nat, i + d = N → AW shM mX7_goes 95 [some (.ref 0), some (.int (nI r)), some (.int sl), some (.int sd), some (.int (nI i))] [] (upA ν 2 (gtM ν f (440 * r) sl sd i)) Q := by
  have m0 : shM[0]? = some (7, 18, [none, some 1, none, none, none, none, none, some 2, some 3, none, none, some 4, none, none, some 5, some 6, some 7, some 8]) := rfl
  have m1 : shM[1]? = some (100, 200, []) := rfl
  have m2 : shM[2]? = some (100, 1320, []) := rfl
  have m3 : shM[3]? = some (100, 1760, []) := rfl
  have m4 : shM[4]? = some (100, 4, []) := rfl
  have m5 : shM[5]? = some (100, 6, []) := rfl
  have m6 : shM[6]? = some (100, 6, []) := rfl
  have m7 : shM[7]? = some (100, 6, []) := rfl
  have m8 : shM[8]? = some (100, 6, []) := rfl
  intro d
  induction d with
  | zero =>
    intro i hd
    refine a_iload (pc := 95) dX7_goes_95 rfl ?_
    refine a_aload_n (pc := 97) dX7_goes_97 rfl rfl ?_
    refine a_geti (pc := 98) fl_X7_56 (by assumption) (by decide) (by rfl) dX7_goes_98 ?_
    refine a_top (y := nI N) (by rw [upA_ne (by decide)]; exact h0) ?_
    refine a_icmp_ge (pc := 101) (tgt := 119) dX7_goes_101 (by decide) (fun c_101 => ?_) (fun c_101 => ?_)
    · have e : i = N := by omega
      subst e
      exact hQ
    · exact absurd (lt_of_not_ge' (by omega) (by omega) c_101) (by omega)
  | succ d ih =>
    intro i hd
    refine a_iload (pc := 95) dX7_goes_95 rfl ?_
    refine a_aload_n (pc := 97) dX7_goes_97 rfl rfl ?_
    refine a_geti (pc := 98) fl_X7_56 (by assumption) (by decide) (by rfl) dX7_goes_98 ?_
    refine a_top (y := nI N) (by rw [upA_ne (by decide)]; exact h0) ?_
    refine a_icmp_ge (pc := 101) (tgt := 119) dX7_goes_101 (by decide) (fun c_101 => ?_) (fun c_101 => ?_)
    · exact absurd (le_of_ge' (by omega) (by omega) c_101) (by omega)
    · refine a_aload_n (pc := 104) dX7_goes_104 rfl rfl ?_
      refine a_iload_n (pc := 105) dX7_goes_105 rfl rfl ?_
      refine a_iload (pc := 106) dX7_goes_106 rfl ?_
      refine a_iload_n (pc := 108) dX7_goes_108 rfl rfl ?_
      refine a_iload_n (pc := 109) dX7_goes_109 rfl rfl ?_
      refine a_callV4 (pc := 110) ck_X7_172 ⟨(Nat.le_of_ble_eq_true rfl), (Nat.le_of_ble_eq_true rfl)⟩ (by assumption) (by decide) (Nat.le_of_ble_eq_true rfl) dX7_goes_110 rfl (c_X7_gets1 hr (by omega) (by rw [upA_at]; exact preG_fr (fun x hx => upA_ne hx) (hp i (by omega)))) ?_
      rintro u h1
      rw [upA_at, upA_upA, gts_fr (ν := ν) (fun x hx => upA_ne hx)] at h1
      subst h1
      refine a_iincN (pc := 113) (m := 1) (al' := [some (.ref _), some (.int _), some (.int _), some (.int _), some (.int _)]) dX7_goes_113 rfl (by decide) rfl rfl ?_
      refine a_goto (pc := 116) (tgt := 95) dX7_goes_116 (by decide) ?_
      exact ih (i + 1) (by omega)
noncomputable def gosR (ν : Mem) (b N : Nat) : Nat → Int32 := upd (upd (gtM (syA ν b (ν 2 (b + 426) + 1) N) (sdM (ν 2) b (ν 2 (b + 426) + 1) (ν 0 5) N) b (ν 2 (b + 426) + 1) (syK (ν 2) b (ν 2 (b + 426) + 1) (ν 0 5) N) N) (b + 426) (ν 2 (b + 426) + 1)) (b + 427) (syK (ν 2) b (ν 2 (b + 426) + 1) (ν 0 5) N)
noncomputable def gosF (ν : Mem) (b N : Nat) : Mem := upA (syA ν b (ν 2 (b + 426) + 1) N) 2 (gosR ν b N)
def PreGo (ν : Mem) (b N : Nat) : Prop := ∀ k, k < N → PreG (syA ν b (ν 2 (b + 426) + 1) N) (gtM (syA ν b (ν 2 (b + 426) + 1) N) (sdM (ν 2) b (ν 2 (b + 426) + 1) (ν 0 5) N) b (ν 2 (b + 426) + 1) (syK (ν 2) b (ν 2 (b + 426) + 1) (ν 0 5) N) k) b k (syK (ν 2) b (ν 2 (b + 426) + 1) (ν 0 5) N)
set_option maxHeartbeats 4000000 in
set_option maxRecDepth 100000 in
theorem c_X7_goes {ν : Mem} {r N : Nat} (hr : r < 3) (h0 : ν 0 2 = nI N) (hN : N ≤ 6) (hp : PreGo ν (440 * r) N) : Con shM mX7_goes [.ref 0, .int (nI r)] ν (fun _ u => u = gosF ν (440 * r) N) := by
  have m0 : shM[0]? = some (7, 18, [none, some 1, none, none, none, none, none, some 2, some 3, none, none, some 4, none, none, some 5, some 6, some 7, some 8]) := rfl
  have m1 : shM[1]? = some (100, 200, []) := rfl
  have m2 : shM[2]? = some (100, 1320, []) := rfl
  have m3 : shM[3]? = some (100, 1760, []) := rfl
  have m4 : shM[4]? = some (100, 4, []) := rfl
  have m5 : shM[5]? = some (100, 6, []) := rfl
  have m6 : shM[6]? = some (100, 6, []) := rfl
  have m7 : shM[7]? = some (100, 6, []) := rfl
  have m8 : shM[8]? = some (100, 6, []) := rfl
  refine Con.ofAW (al0 := [some (.ref 0), some (.int (nI r)), none, none, none]) (by decide) rfl (Nat.le_of_ble_eq_true rfl) rfl ?_
  refine a_aload_n (pc := 0) dX7_goes_0 rfl rfl ?_
  refine a_getr (pc := 1) fl_X7_13 (by assumption) (by decide) (by rfl) dX7_goes_1 ?_
  refine a_sipush (pc := 4) (v := 440) dX7_goes_4 (by decide) ?_
  refine a_iload_n (pc := 7) dX7_goes_7 rfl rfl ?_
  refine a_imulN (pc := 8) (a := 440) (b := _) rfl rfl dX7_goes_8 ?_
  refine a_sipush (pc := 9) (v := 426) dX7_goes_9 (by decide) ?_
  refine a_iaddN (pc := 12) (a := _) (b := 426) rfl rfl dX7_goes_12 ?_
  refine a_iald (pc := 13)  (by assumption) rfl (by omega) (by decide) dX7_goes_13 ?_
  refine a_iconst (pc := 14) (v := 1) dX7_goes_14 (by decide) ?_
  refine a_iadd (pc := 15) dX7_goes_15 ?_
  refine a_istore_n (pc := 16) (al' := [some (.ref _), some (.int _), some (.int _), none, none]) dX7_goes_16 rfl (by decide) rfl rfl ?_
  refine a_iconst (pc := 17) (v := 0) dX7_goes_17 (by decide) ?_
  refine a_istore_n (pc := 18) (al' := [some (.ref _), some (.int _), some (.int _), some (.int _), none]) dX7_goes_18 rfl (by decide) rfl rfl ?_
  refine a_iconst (pc := 19) (v := 0) dX7_goes_19 (by decide) ?_
  refine a_istore (pc := 20) (al' := [some (.ref _), some (.int _), some (.int _), some (.int _), some (.int _)]) dX7_goes_20 (by decide) rfl rfl ?_
  refine l1_X7_goes (N := N) hr h0 hN ?_ N 0 (by omega)
  refine a_iconst (pc := 66) (v := 0) dX7_goes_66 (by decide) ?_
  refine a_istore (pc := 67) (al' := [some (.ref _), some (.int _), some (.int _), some (.int _), some (.int _)]) dX7_goes_67 (by decide) rfl rfl ?_
  have e0 : syA ν (440 * r) (ν 2 (440 * r + 426) + 1) N = upA (syA ν (440 * r) (ν 2 (440 * r + 426) + 1) N) 2 (sdM (ν 2) (440 * r) (ν 2 (440 * r + 426) + 1) (ν 0 5) 0) := by
    rw [show sdM (ν 2) (440 * r) (ν 2 (440 * r + 426) + 1) (ν 0 5) 0 = syA ν (440 * r) (ν 2 (440 * r + 426) + 1) N 2 from (syA_ne (ν := ν) (b := 440 * r) (k := N) (x := 2) (sl := ν 2 (440 * r + 426) + 1) (by omega)).symm, upA_self]
  rw [e0]
  refine l2_X7_goes (N := N) hr h0 hN ?_ N 0 (by omega)
  refine a_iconst (pc := 92) (v := 0) dX7_goes_92 (by decide) ?_
  refine a_istore (pc := 93) (al' := [some (.ref _), some (.int _), some (.int _), some (.int _), some (.int _)]) dX7_goes_93 (by decide) rfl rfl ?_
  refine l3_X7_goes (ν := syA ν (440 * r) (ν 2 (440 * r + 426) + 1) N) (f := sdM (ν 2) (440 * r) (ν 2 (440 * r + 426) + 1) (ν 0 5) N) (N := N) hr (by rw [syA_ne (by omega)]; exact h0) hN hp ?_ N 0 (by omega)
  refine a_aload_n (pc := 119) dX7_goes_119 rfl rfl ?_
  refine a_getr (pc := 120) fl_X7_13 (by assumption) (by decide) (by rfl) dX7_goes_120 ?_
  refine a_sipush (pc := 123) (v := 440) dX7_goes_123 (by decide) ?_
  refine a_iload_n (pc := 126) dX7_goes_126 rfl rfl ?_
  refine a_imulN (pc := 127) (a := 440) (b := _) rfl rfl dX7_goes_127 ?_
  refine a_sipush (pc := 128) (v := 426) dX7_goes_128 (by decide) ?_
  refine a_iaddN (pc := 131) (a := _) (b := 426) rfl rfl dX7_goes_131 ?_
  refine a_iload_n (pc := 132) dX7_goes_132 rfl rfl ?_
  refine a_iast (pc := 133)  (by assumption) rfl (by omega) (by decide) dX7_goes_133 ?_
  refine a_aload_n (pc := 134) dX7_goes_134 rfl rfl ?_
  refine a_getr (pc := 135) fl_X7_13 (by assumption) (by decide) (by rfl) dX7_goes_135 ?_
  refine a_sipush (pc := 138) (v := 440) dX7_goes_138 (by decide) ?_
  refine a_iload_n (pc := 141) dX7_goes_141 rfl rfl ?_
  refine a_imulN (pc := 142) (a := 440) (b := _) rfl rfl dX7_goes_142 ?_
  refine a_sipush (pc := 143) (v := 427) dX7_goes_143 (by decide) ?_
  refine a_iaddN (pc := 146) (a := _) (b := 427) rfl rfl dX7_goes_146 ?_
  refine a_iload_n (pc := 147) dX7_goes_147 rfl rfl ?_
  refine a_iast (pc := 148)  (by assumption) rfl (by omega) (by decide) dX7_goes_148 ?_
  refine a_vret (pc := 149) rfl dX7_goes_149 ?_
  simp only [up2_upA]; rfl

