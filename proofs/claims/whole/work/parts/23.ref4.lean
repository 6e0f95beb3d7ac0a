/-! the reference: gets -/
theorem and1 (x : Int32) : (x &&& 1 = 0) = ¬ (x &&& 1 = 1) := by
  obtain ⟨j, hj, e⟩ := pk_andE x (m := 1) 1 (by decide)
  rw [e]
  match j, hj with
  | 0, _ => simp [nI]
  | 1, _ => simp [nI]
theorem low6' : ∀ m, m < 64 → (m = 0 ∨ nI m >>> ((0 : Int32) &&& 31) &&& 1 = 1 ∨ nI m >>> ((1 : Int32) &&& 31) &&& 1 = 1 ∨ nI m >>> ((2 : Int32) &&& 31) &&& 1 = 1 ∨ nI m >>> ((3 : Int32) &&& 31) &&& 1 = 1 ∨ nI m >>> ((4 : Int32) &&& 31) &&& 1 = 1 ∨ nI m >>> ((5 : Int32) &&& 31) &&& 1 = 1) := by decide +kernel
theorem low6 (m : Nat) (hm : m < 64) (h0 : ¬ (nI m >>> ((0 : Int32) &&& 31) &&& 1 = 1)) (h1 : ¬ (nI m >>> ((1 : Int32) &&& 31) &&& 1 = 1)) (h2 : ¬ (nI m >>> ((2 : Int32) &&& 31) &&& 1 = 1)) (h3 : ¬ (nI m >>> ((3 : Int32) &&& 31) &&& 1 = 1)) (h4 : ¬ (nI m >>> ((4 : Int32) &&& 31) &&& 1 = 1)) (h5 : ¬ (nI m >>> ((5 : Int32) &&& 31) &&& 1 = 1)) : m = 0 := by
  rcases low6' m hm with h | h | h | h | h | h | h
  · exact h
  · exact absurd h h0
  · exact absurd h h1
  · exact absurd h h2
  · exact absurd h h3
  · exact absurd h h4
  · exact absurd h h5
set_option maxHeartbeats 4000000 in
set_option maxRecDepth 100000 in
theorem l_X7_gets {ν : Mem} {r i m : Nat} {sl sd v6 : Int32} {Q : Int32 → Mem → Prop} (hm : m < 64) (h0 : ¬ m = 0) (hQ : AW shM mX7_gets 132 [some (.ref 0), some (.int (nI r)), some (.int (nI i)), some (.int sl), some (.int sd), some (.int (nI (440 * r + 70 * i))), some (.int v6), some (.int (nI m)), some (.int 0), some (.int (lowF (nI m)))] [] ν Q) : AW shM mX7_gets 116 [some (.ref 0), some (.int (nI r)), some (.int (nI i)), some (.int sl), some (.int sd), some (.int (nI (440 * r + 70 * i))), some (.int v6), some (.int (nI m)), some (.int 0), some (.int 0)] [] ν Q := by
  refine a_iload (pc := 116) dX7_gets_116 rfl ?_
  refine a_iload (pc := 118) dX7_gets_118 rfl ?_
  refine a_callS2 (pc := 120) cs_X7_105 ⟨(Nat.le_of_ble_eq_true rfl), (Nat.le_of_ble_eq_true rfl)⟩ (Nat.le_of_ble_eq_true rfl) dX7_gets_120 rfl c_X7_has ?_
  rintro q_ u ⟨hq, rfl⟩
  refine a_if_ne (pc := 123) (tgt := 132) dX7_gets_123 (by decide) (fun c_123 => ?_) (fun c_123 => ?_)
  · have bb : bitF (nI m) 0 := hq.elim (fun h => h.2) (fun h => absurd h.1 c_123)
    have e : lowF (nI m) = 0 := by simp_all [lowF, bitF, and1]
    exact AW.cast hQ rfl (by rw [e]) rfl rfl
  · have b0 : ¬ (nI m >>> ((0 : Int32) &&& 31) &&& 1 = 1) := hq.elim (fun h => absurd (h.1.symm.trans c_123) (by decide)) (fun h => h.2)
    clear hq c_123
    refine a_iinc (pc := 126) (v := 1) (al' := [some (.ref _), some (.int _), some (.int _), some (.int _), some (.int _), some (.int _), some (.int _), some (.int _), some (.int _), some (.int _)]) dX7_gets_126 rfl (by decide) (by decide) rfl rfl ?_
    refine a_goto (pc := 129) (tgt := 116) dX7_gets_129 (by decide) ?_
    refine a_iload (pc := 116) dX7_gets_116 rfl ?_
    refine a_iload (pc := 118) dX7_gets_118 rfl ?_
    refine a_callS2 (pc := 120) cs_X7_105 ⟨(Nat.le_of_ble_eq_true rfl), (Nat.le_of_ble_eq_true rfl)⟩ (Nat.le_of_ble_eq_true rfl) dX7_gets_120 rfl c_X7_has ?_
    rintro q_ u ⟨hq, rfl⟩
    refine a_if_ne (pc := 123) (tgt := 132) dX7_gets_123 (by decide) (fun c_123 => ?_) (fun c_123 => ?_)
    · have bb : bitF (nI m) 1 := hq.elim (fun h => h.2) (fun h => absurd h.1 c_123)
      have e : lowF (nI m) = 1 := by simp_all [lowF, bitF, and1]
      exact AW.cast hQ rfl (by rw [e]) rfl rfl
    · have b1 : ¬ (nI m >>> ((1 : Int32) &&& 31) &&& 1 = 1) := hq.elim (fun h => absurd (h.1.symm.trans c_123) (by decide)) (fun h => h.2)
      clear hq c_123
      refine a_iinc (pc := 126) (v := 2) (al' := [some (.ref _), some (.int _), some (.int _), some (.int _), some (.int _), some (.int _), some (.int _), some (.int _), some (.int _), some (.int _)]) dX7_gets_126 rfl (by decide) (by decide) rfl rfl ?_
      refine a_goto (pc := 129) (tgt := 116) dX7_gets_129 (by decide) ?_
      refine a_iload (pc := 116) dX7_gets_116 rfl ?_
      refine a_iload (pc := 118) dX7_gets_118 rfl ?_
      refine a_callS2 (pc := 120) cs_X7_105 ⟨(Nat.le_of_ble_eq_true rfl), (Nat.le_of_ble_eq_true rfl)⟩ (Nat.le_of_ble_eq_true rfl) dX7_gets_120 rfl c_X7_has ?_
      rintro q_ u ⟨hq, rfl⟩
      refine a_if_ne (pc := 123) (tgt := 132) dX7_gets_123 (by decide) (fun c_123 => ?_) (fun c_123 => ?_)
      · have bb : bitF (nI m) 2 := hq.elim (fun h => h.2) (fun h => absurd h.1 c_123)
        have e : lowF (nI m) = 2 := by simp_all [lowF, bitF, and1]
        exact AW.cast hQ rfl (by rw [e]) rfl rfl
      · have b2 : ¬ (nI m >>> ((2 : Int32) &&& 31) &&& 1 = 1) := hq.elim (fun h => absurd (h.1.symm.trans c_123) (by decide)) (fun h => h.2)
        clear hq c_123
        refine a_iinc (pc := 126) (v := 3) (al' := [some (.ref _), some (.int _), some (.int _), some (.int _), some (.int _), some (.int _), some (.int _), some (.int _), some (.int _), some (.int _)]) dX7_gets_126 rfl (by decide) (by decide) rfl rfl ?_
        refine a_goto (pc := 129) (tgt := 116) dX7_gets_129 (by decide) ?_
        refine a_iload (pc := 116) dX7_gets_116 rfl ?_
        refine a_iload (pc := 118) dX7_gets_118 rfl ?_
        refine a_callS2 (pc := 120) cs_X7_105 ⟨(Nat.le_of_ble_eq_true rfl), (Nat.le_of_ble_eq_true rfl)⟩ (Nat.le_of_ble_eq_true rfl) dX7_gets_120 rfl c_X7_has ?_
        rintro q_ u ⟨hq, rfl⟩
        refine a_if_ne (pc := 123) (tgt := 132) dX7_gets_123 (by decide) (fun c_123 => ?_) (fun c_123 => ?_)
        · have bb : bitF (nI m) 3 := hq.elim (fun h => h.2) (fun h => absurd h.1 c_123)
          have e : lowF (nI m) = 3 := by simp_all [lowF, bitF, and1]
          exact AW.cast hQ rfl (by rw [e]) rfl rfl
        · have b3 : ¬ (nI m >>> ((3 : Int32) &&& 31) &&& 1 = 1) := hq.elim (fun h => absurd (h.1.symm.trans c_123) (by decide)) (fun h => h.2)
          clear hq c_123
          refine a_iinc (pc := 126) (v := 4) (al' := [some (.ref _), some (.int _), some (.int _), some (.int _), some (.int _), some (.int _), some (.int _), some (.int _), some (.int _), some (.int _)]) dX7_gets_126 rfl (by decide) (by decide) rfl rfl ?_
          refine a_goto (pc := 129) (tgt := 116) dX7_gets_129 (by decide) ?_
          refine a_iload (pc := 116) dX7_gets_116 rfl ?_
          refine a_iload (pc := 118) dX7_gets_118 rfl ?_
          refine a_callS2 (pc := 120) cs_X7_105 ⟨(Nat.le_of_ble_eq_true rfl), (Nat.le_of_ble_eq_true rfl)⟩ (Nat.le_of_ble_eq_true rfl) dX7_gets_120 rfl c_X7_has ?_
          rintro q_ u ⟨hq, rfl⟩
          refine a_if_ne (pc := 123) (tgt := 132) dX7_gets_123 (by decide) (fun c_123 => ?_) (fun c_123 => ?_)
          · have bb : bitF (nI m) 4 := hq.elim (fun h => h.2) (fun h => absurd h.1 c_123)
            have e : lowF (nI m) = 4 := by simp_all [lowF, bitF, and1]
            exact AW.cast hQ rfl (by rw [e]) rfl rfl
          · have b4 : ¬ (nI m >>> ((4 : Int32) &&& 31) &&& 1 = 1) := hq.elim (fun h => absurd (h.1.symm.trans c_123) (by decide)) (fun h => h.2)
            clear hq c_123
            refine a_iinc (pc := 126) (v := 5) (al' := [some (.ref _), some (.int _), some (.int _), some (.int _), some (.int _), some (.int _), some (.int _), some (.int _), some (.int _), some (.int _)]) dX7_gets_126 rfl (by decide) (by decide) rfl rfl ?_
            refine a_goto (pc := 129) (tgt := 116) dX7_gets_129 (by decide) ?_
            refine a_iload (pc := 116) dX7_gets_116 rfl ?_
            refine a_iload (pc := 118) dX7_gets_118 rfl ?_
            refine a_callS2 (pc := 120) cs_X7_105 ⟨(Nat.le_of_ble_eq_true rfl), (Nat.le_of_ble_eq_true rfl)⟩ (Nat.le_of_ble_eq_true rfl) dX7_gets_120 rfl c_X7_has ?_
            rintro q_ u ⟨hq, rfl⟩
            refine a_if_ne (pc := 123) (tgt := 132) dX7_gets_123 (by decide) (fun c_123 => ?_) (fun c_123 => ?_)
            · have bb : bitF (nI m) 5 := hq.elim (fun h => h.2) (fun h => absurd h.1 c_123)
              have e : lowF (nI m) = 5 := by simp_all [lowF, bitF, and1]
              exact AW.cast hQ rfl (by rw [e]) rfl rfl
            · have b5 : ¬ (nI m >>> ((5 : Int32) &&& 31) &&& 1 = 1) := hq.elim (fun h => absurd (h.1.symm.trans c_123) (by decide)) (fun h => h.2)
              clear hq c_123
              refine a_iinc (pc := 126) (v := 6) (al' := [some (.ref _), some (.int _), some (.int _), some (.int _), some (.int _), some (.int _), some (.int _), some (.int _), some (.int _), some (.int _)]) dX7_gets_126 rfl (by decide) (by decide) rfl rfl ?_
              refine a_goto (pc := 129) (tgt := 116) dX7_gets_129 (by decide) ?_
              exact absurd (low6 m hm b0 b1 b2 b3 b4 b5) h0
theorem le0_of : ∀ m, m < 64 → (nI m ≤ 0 ↔ m = 0) := by decide +kernel
def tk3F (f : Nat → Int32) (b i j : Nat) (sl wd p : Int32) : Nat → Int32 := if p = 0 ∨ (f (b + 70 * i + 30) = nI j ∧ f (b + 70 * i + 31) = p ∧ f (b + 70 * i + 32) = sl - 1) then (if p + 1 = wd then upd (upd (upd (upd (upd f (b + 70 * i + 31) (p + 1)) (b + 70 * i + 30) (nI j)) (b + 70 * i + 32) sl) (b + 70 * i + 24) (sl + 1)) (b + 70 * i + 25) (nI j) else upd (upd (upd f (b + 70 * i + 31) (p + 1)) (b + 70 * i + 30) (nI j)) (b + 70 * i + 32) sl) else upd (upd (upd f (b + 70 * i + 31) 0) (b + 70 * i + 30) (nI j)) (b + 70 * i + 32) sl
theorem tk3P_eq {f : Nat → Int32} {b i j : Nat} {sl wd p : Int32} {g : Nat → Int32} (h : tk3P f b i j sl wd p g) : g = tk3F f b i j sl wd p := by
  unfold tk3F
  rcases h with ⟨h1, h2, h3⟩ | ⟨h1, h2, h3⟩ | ⟨h1, h3⟩ <;> unfold nxtP at h1
  · rw [if_pos h1, if_pos h2, h3]
  · rw [if_pos h1, if_neg h2, h3]
  · rw [if_neg h1, h3]
def tkoF (f : Nat → Int32) (b i j n t : Nat) (sl w wd p L : Int32) : Int32 × (Nat → Int32) := if w = 1 then (0, tk1F f b i j sl wd) else if w = 2 then tk2F f b i sl else if w = 3 then (0, tk3F f b i j sl wd p) else tk4F f b i n t sl L
theorem c_X7_takesOwn {ν : Mem} {r i j : Nat} {sl : Int32} (hr : r < 3) (hi : i < 6) (hj : j < 6) (hk : ν 5 j = 1 ∨ ν 5 j = 2 ∨ ν 5 j = 3 ∨ ν 5 j = 4) {n t : Nat} (hs : ν 2 (440 * r + 70 * i + 26) = 2 → n < 6 ∧ ν 2 (440 * r + 70 * i + 8) = nI (n + 1)) (hL : ¬ ν 0 3 = 0) (ht : ν 2 (440 * r + 70 * i + 1) = nI t) (htl : t < 9) : Con shM mX7_takesOwn [.ref 0, .int (nI r), .int (nI i), .int (nI j), .int sl] ν (fun q u => q = (tkoF (ν 2) (440 * r) i j n t sl (ν 5 j) (ν 7 j) (ν 8 j) (ν 0 3)).1 ∧ u = upA ν 2 (tkoF (ν 2) (440 * r) i j n t sl (ν 5 j) (ν 7 j) (ν 8 j) (ν 0 3)).2) := by
  unfold tkoF
  rcases hk with hk | hk | hk | hk
  · refine (c_X7_takesOwn1 hr hi hj hk).mono ?_
    rintro q u ⟨rfl, rfl⟩
    simp [hk]
  · refine (c_X7_takesOwn2 hr hi hj hk).mono ?_
    rintro q u ⟨rfl, rfl⟩
    simp [hk]
  · refine (c_X7_takesOwn3 hr hi hj hk).mono ?_
    rintro q u ⟨rfl, h1, h2⟩
    rw [tk3P_eq h2] at h1
    simp [hk, ← h1]
  · refine (c_X7_takesOwn4 hr hi hj hk hs hL ht htl).mono ?_
    rintro q u ⟨rfl, rfl⟩
    simp [hk]
def gotF (ν : Mem) (f : Nat → Int32) (b i m n t h : Nat) (sl sd : Int32) : Int32 × (Nat → Int32) := if sd >>> (nI i &&& 31) &&& 1 = 1 then (0, f) else if 1 < popN m then (0, upd f (b + 70 * i + 4) (f (b + 70 * i + 4) + 1)) else if m = 0 then (0, f) else if ν 6 (lowF (nI m)).toNatClampNeg = nI i then tkoF f b i (lowF (nI m)).toNatClampNeg n t sl (ν 5 (lowF (nI m)).toNatClampNeg) (ν 7 (lowF (nI m)).toNatClampNeg) (ν 8 (lowF (nI m)).toNatClampNeg) (ν 0 3) else (0, ohsF f b i (lowF (nI m)).toNatClampNeg h sl (ν 5 (lowF (nI m)).toNatClampNeg) (ν 6 (lowF (nI m)).toNatClampNeg) (ν 7 (lowF (nI m)).toNatClampNeg) (ν 8 (lowF (nI m)).toNatClampNeg))
def gtsF (ν : Mem) (f : Nat → Int32) (b i m n t h : Nat) (sl sd : Int32) : Nat → Int32 := if (¬ f (b + 70 * i + 26) ≤ 0 ∧ f (b + 70 * i + 27) = sl) ∧ (gotF ν f b i m n t h sl sd).1 = 0 then falF (gotF ν f b i m n t h sl sd).2 b i n (ν 0 3) (ν 0 4) (ν 0 6) else (gotF ν f b i m n t h sl sd).2
theorem ohs_keep {f : Nat → Int32} {b i j h k : Nat} {sl w wh wd p : Int32} (hk : k < 33) (h3 : k ≠ 3) (hh : h ≤ 6) : ohsF f b i j h sl w wh wd p (b + 70 * i + k) = f (b + 70 * i + k) := by
  unfold ohsF oh1F sh4F
  split
  · simp only [upd_ap]
    rw [if_neg (by omega), if_neg (by omega), if_neg (by omega), if_neg (by omega), if_neg (by omega), if_neg (by omega), if_neg (by omega)]
  · simp only [upd_ap]
    rw [if_neg (by omega), if_neg (by omega), if_neg (by omega), if_neg (by omega), if_neg (by omega), if_neg (by omega)]
theorem tko_keep {f : Nat → Int32} {b i j n t k : Nat} {sl w wd p L : Int32} (hk : k < 21) (h0 : (tkoF f b i j n t sl w wd p L).1 = 0) : (tkoF f b i j n t sl w wd p L).2 (b + 70 * i + k) = f (b + 70 * i + k) := by
  revert h0
  unfold tkoF
  split
  · intro _
    unfold tk1F
    split
    · rfl
    · simp only [upd_ap]
      rw [if_neg (by omega), if_neg (by omega), if_neg (by omega)]
  · split
    · unfold tk2F
      split
      · intro h; exact absurd h (show ¬ (1 : Int32) = 0 by decide)
      · intro _; rfl
    · split
      · intro _
        unfold tk3F
        split
        · split
          · simp only [upd_ap]; rw [if_neg (by omega), if_neg (by omega), if_neg (by omega), if_neg (by omega), if_neg (by omega)]
          · simp only [upd_ap]; rw [if_neg (by omega), if_neg (by omega), if_neg (by omega)]
        · simp only [upd_ap]; rw [if_neg (by omega), if_neg (by omega), if_neg (by omega)]
      · unfold tk4F
        split
        · intro h; exact absurd h (show ¬ (1 : Int32) = 0 by decide)
        · intro _; rfl
theorem got_keep {ν : Mem} {f : Nat → Int32} {b i m n t h k : Nat} {sl sd : Int32} (hk : k < 21) (h3 : k ≠ 3) (h4 : k ≠ 4) (hh : h ≤ 6) (h0 : (gotF ν f b i m n t h sl sd).1 = 0) : (gotF ν f b i m n t h sl sd).2 (b + 70 * i + k) = f (b + 70 * i + k) := by
  revert h0
  unfold gotF
  split
  · intro _; rfl
  · split
    · intro _; simp only [upd_ap]; rw [if_neg (by omega)]
    · split
      · intro _; rfl
      · split
        · exact fun h0 => tko_keep hk h0
        · intro _; exact ohs_keep (by omega) h3 hh
set_option maxHeartbeats 4000000 in
set_option maxRecDepth 100000 in
theorem c_X7_gets {ν : Mem} {r i m n t h : Nat} {sl sd : Int32} (hr : r < 3) (hi : i < 6) (hm : m < 64) (hh : ν 2 (440 * r + 420 + i) &&& sd = nI m) (hk : ¬ m = 0 → ¬ sd >>> (nI i &&& 31) &&& 1 = 1 → (ν 5 (lowF (nI m)).toNatClampNeg = 1 ∨ ν 5 (lowF (nI m)).toNatClampNeg = 2 ∨ ν 5 (lowF (nI m)).toNatClampNeg = 3 ∨ ν 5 (lowF (nI m)).toNatClampNeg = 4)) (hsz : ¬ ν 2 (440 * r + 70 * i + 26) ≤ 0 → n < 6 ∧ ν 2 (440 * r + 70 * i + 8) = nI (n + 1)) (hL : ¬ ν 0 3 = 0) (hM : ¬ ν 0 4 = 0) (hw : ¬ 2 * ν 2 (440 * r + 70 * i) = 0) (ht : ν 2 (440 * r + 70 * i + 1) = nI t) (htl : t < 9) (hhd : ν 2 (440 * r + 70 * i + 33) = nI h) (hhl : h ≤ 6) : Con shM mX7_gets [.ref 0, .int (nI r), .int (nI i), .int sl, .int sd] ν (fun _ u => u = upA ν 2 (gtsF ν (ν 2) (440 * r) i m n t h sl sd)) := by
  have m0 : shM[0]? = some (7, 18, [none, some 1, none, none, none, none, none, some 2, some 3, none, none, some 4, none, none, some 5, some 6, some 7, some 8]) := rfl
  have m1 : shM[1]? = some (100, 200, []) := rfl
  have m2 : shM[2]? = some (100, 1320, []) := rfl
  have m3 : shM[3]? = some (100, 1760, []) := rfl
  have m4 : shM[4]? = some (100, 4, []) := rfl
  have m5 : shM[5]? = some (100, 6, []) := rfl
  have m6 : shM[6]? = some (100, 6, []) := rfl
  have m7 : shM[7]? = some (100, 6, []) := rfl
  have m8 : shM[8]? = some (100, 6, []) := rfl
  obtain ⟨jj, hj6, hjl, hjn⟩ := low_ok m hm
  have hs2 : ν 2 (440 * r + 70 * i + 26) = 2 → n < 6 ∧ ν 2 (440 * r + 70 * i + 8) = nI (n + 1) := fun e => hsz (by rw [e]; decide)
  refine Con.ofAW (al0 := [some (.ref 0), some (.int (nI r)), some (.int (nI i)), some (.int sl), some (.int sd), none, none, none, none, none]) (by decide) rfl (Nat.le_of_ble_eq_true rfl) rfl ?_
  refine a_iload_n (pc := 0) dX7_gets_0 rfl rfl ?_
  refine a_iload_n (pc := 1) dX7_gets_1 rfl rfl ?_
  refine a_callS2 (pc := 2) cs_X7_52 ⟨(Nat.le_of_ble_eq_true rfl), (Nat.le_of_ble_eq_true rfl)⟩ (Nat.le_of_ble_eq_true rfl) dX7_gets_2 rfl c_X7_at ?_
  rintro r_ u ⟨rfl, rfl⟩
  refine a_istore (pc := 5) (al' := [some (.ref _), some (.int _), some (.int _), some (.int _), some (.int _), some (.int _), none, none, none, none]) dX7_gets_5 (by decide) rfl rfl ?_
  refine a_aload_n (pc := 7) dX7_gets_7 rfl rfl ?_
  refine a_getr (pc := 8) fl_X7_13 (by assumption) (by decide) (by rfl) dX7_gets_8 ?_
  refine a_iload (pc := 11) dX7_gets_11 rfl ?_
  refine a_bipush (pc := 13) (v := 26) dX7_gets_13 (by decide) ?_
  refine a_iaddN (pc := 15) (a := _) (b := 26) rfl rfl dX7_gets_15 ?_
  refine a_iald (pc := 16)  (by assumption) rfl (by omega) (by decide) dX7_gets_16 ?_
  refine a_if_le (pc := 17) (tgt := 38) dX7_gets_17 (by decide) (fun c_17 => ?_) (fun c_17 => ?_)
  · refine a_iconst (pc := 38) (v := 0) dX7_gets_38 (by decide) ?_
    refine a_istore (pc := 39) (al' := [some (.ref _), some (.int _), some (.int _), some (.int _), some (.int _), some (.int _), some (.int _), none, none, none]) dX7_gets_39 (by decide) rfl rfl ?_
    refine a_aload_n (pc := 41) dX7_gets_41 rfl rfl ?_
    refine a_getr (pc := 42) fl_X7_13 (by assumption) (by decide) (by rfl) dX7_gets_42 ?_
    refine a_sipush (pc := 45) (v := 440) dX7_gets_45 (by decide) ?_
    refine a_iload_n (pc := 48) dX7_gets_48 rfl rfl ?_
    refine a_imulN (pc := 49) (a := 440) (b := _) rfl rfl dX7_gets_49 ?_
    refine a_sipush (pc := 50) (v := 420) dX7_gets_50 (by decide) ?_
    refine a_iaddN (pc := 53) (a := _) (b := 420) rfl rfl dX7_gets_53 ?_
    refine a_iload_n (pc := 54) dX7_gets_54 rfl rfl ?_
    refine a_iaddN (pc := 55) (a := _) (b := _) rfl rfl dX7_gets_55 ?_
    refine a_iald (pc := 56)  (by assumption) rfl (by omega) (by decide) dX7_gets_56 ?_
    refine a_iload (pc := 57) dX7_gets_57 rfl ?_
    refine a_iand (pc := 59) dX7_gets_59 ?_
    refine a_top (y := nI m) hh ?_
    refine a_istore (pc := 60) (al' := [some (.ref _), some (.int _), some (.int _), some (.int _), some (.int _), some (.int _), some (.int _), some (.int _), none, none]) dX7_gets_60 (by decide) rfl rfl ?_
    refine a_iconst (pc := 62) (v := 0) dX7_gets_62 (by decide) ?_
    refine a_istore (pc := 63) (al' := [some (.ref _), some (.int _), some (.int _), some (.int _), some (.int _), some (.int _), some (.int _), some (.int _), some (.int _), none]) dX7_gets_63 (by decide) rfl rfl ?_
    refine a_iload (pc := 65) dX7_gets_65 rfl ?_
    refine a_iload_n (pc := 67) dX7_gets_67 rfl rfl ?_
    refine a_callS2 (pc := 68) cs_X7_105 ⟨(Nat.le_of_ble_eq_true rfl), (Nat.le_of_ble_eq_true rfl)⟩ (Nat.le_of_ble_eq_true rfl) dX7_gets_68 rfl c_X7_has ?_
    rintro q_ u ⟨hq68, rfl⟩
    refine a_if_ne (pc := 71) (tgt := 99) dX7_gets_71 (by decide) (fun c_71 => ?_) (fun c_71 => ?_)
    · refine a_iload (pc := 99) dX7_gets_99 rfl ?_
      refine a_iload_n (pc := 101) dX7_gets_101 rfl rfl ?_
      refine a_callS2 (pc := 102) cs_X7_105 ⟨(Nat.le_of_ble_eq_true rfl), (Nat.le_of_ble_eq_true rfl)⟩ (Nat.le_of_ble_eq_true rfl) dX7_gets_102 rfl c_X7_has ?_
      rintro q_ u ⟨hq102, rfl⟩
      refine a_if_ne (pc := 105) (tgt := 166) dX7_gets_105 (by decide) (fun c_105 => ?_) (fun c_105 => ?_)
      · refine a_iload (pc := 166) dX7_gets_166 rfl ?_
        refine a_if_eq (pc := 168) (tgt := 182) dX7_gets_168 (by decide) (fun c_168 => ?_) (fun c_168 => ?_)
        · refine a_vret (pc := 182) rfl dX7_gets_182 ?_
          simp_all [gtsF, gotF, bitF, pop_le m hm, eq0_of m hm, le0_of m hm, upA_self, up2_eq, upA_upA, upA_ap, up2_upA, upd_ap, -Int32.not_lt, -Int32.not_le, -Nat.not_lt]
        · exact absurd c_168 (by decide)
      · refine a_iload (pc := 108) dX7_gets_108 rfl ?_
        refine a_if_le (pc := 110) (tgt := 166) dX7_gets_110 (by decide) (fun c_110 => ?_) (fun c_110 => ?_)
        · refine a_iload (pc := 166) dX7_gets_166 rfl ?_
          refine a_if_eq (pc := 168) (tgt := 182) dX7_gets_168 (by decide) (fun c_168 => ?_) (fun c_168 => ?_)
          · refine a_vret (pc := 182) rfl dX7_gets_182 ?_
            simp_all [gtsF, gotF, bitF, pop_le m hm, eq0_of m hm, le0_of m hm, upA_self, up2_eq, upA_upA, upA_ap, up2_upA, upd_ap, -Int32.not_lt, -Int32.not_le, -Nat.not_lt]
          · exact absurd c_168 (by decide)
        · refine a_iconst (pc := 113) (v := 0) dX7_gets_113 (by decide) ?_
          refine a_istore (pc := 114) (al' := [some (.ref _), some (.int _), some (.int _), some (.int _), some (.int _), some (.int _), some (.int _), some (.int _), some (.int _), some (.int _)]) dX7_gets_114 (by decide) rfl rfl ?_
          have hm0 : ¬ m = 0 := fun e => c_110 (by rw [e]; decide)
          have hns : ¬ sd >>> (nI i &&& 31) &&& 1 = 1 := hq102.elim (fun h => absurd (h.1.symm.trans c_105) (by decide)) (fun h => h.2)
          refine l_X7_gets hm hm0 ?_
          rw [hjl]
          refine a_aload_n (pc := 132) dX7_gets_132 rfl rfl ?_
          refine a_getr (pc := 133) fl_X7_25 (by assumption) (by decide) (by rfl) dX7_gets_133 ?_
          refine a_iload (pc := 136) dX7_gets_136 rfl ?_
          refine a_iald (pc := 138)  (by assumption) rfl (by omega) (by decide) dX7_gets_138 ?_
          refine a_iload_n (pc := 139) dX7_gets_139 rfl rfl ?_
          refine a_icmp_ne (pc := 140) (tgt := 157) dX7_gets_140 (by decide) (fun c_140 => ?_) (fun c_140 => ?_)
          · refine a_aload_n (pc := 157) dX7_gets_157 rfl rfl ?_
            refine a_iload_n (pc := 158) dX7_gets_158 rfl rfl ?_
            refine a_iload_n (pc := 159) dX7_gets_159 rfl rfl ?_
            refine a_iload (pc := 160) dX7_gets_160 rfl ?_
            refine a_iload_n (pc := 162) dX7_gets_162 rfl rfl ?_
            refine a_callV4 (pc := 163) ck_X7_160 ⟨(Nat.le_of_ble_eq_true rfl), (Nat.le_of_ble_eq_true rfl)⟩ (by assumption) (by decide) (Nat.le_of_ble_eq_true rfl) dX7_gets_163 rfl (c_X7_overhears (h := h) hr hi hj6 hhl hhd) ?_
            rintro u rfl
            refine a_iload (pc := 166) dX7_gets_166 rfl ?_
            refine a_if_eq (pc := 168) (tgt := 182) dX7_gets_168 (by decide) (fun c_168 => ?_) (fun c_168 => ?_)
            · refine a_vret (pc := 182) rfl dX7_gets_182 ?_
              simp_all [gtsF, gotF, bitF, pop_le m hm, eq0_of m hm, le0_of m hm, upA_self, up2_eq, upA_upA, upA_ap, up2_upA, upd_ap, -Int32.not_lt, -Int32.not_le, -Nat.not_lt]
            · exact absurd c_168 (by decide)
          · refine a_aload_n (pc := 143) dX7_gets_143 rfl rfl ?_
            refine a_iload_n (pc := 144) dX7_gets_144 rfl rfl ?_
            refine a_iload_n (pc := 145) dX7_gets_145 rfl rfl ?_
            refine a_iload (pc := 146) dX7_gets_146 rfl ?_
            refine a_iload_n (pc := 148) dX7_gets_148 rfl rfl ?_
            refine a_callI4 (pc := 149) ck_X7_156 ⟨(Nat.le_of_ble_eq_true rfl), (Nat.le_of_ble_eq_true rfl)⟩ (by assumption) (by decide) (Nat.le_of_ble_eq_true rfl) dX7_gets_149 rfl (c_X7_takesOwn (n := n) (t := t) hr hi hj6 (hjn ▸ hk hm0 hns) hs2 hL ht htl) ?_
            rintro q_ u ⟨rfl, rfl⟩
            refine a_istore (pc := 152) (al' := [some (.ref _), some (.int _), some (.int _), some (.int _), some (.int _), some (.int _), some (.int _), some (.int _), some (.int _), some (.int _)]) dX7_gets_152 (by decide) rfl rfl ?_
            refine a_goto (pc := 154) (tgt := 166) dX7_gets_154 (by decide) ?_
            refine a_iload (pc := 166) dX7_gets_166 rfl ?_
            refine a_if_eq (pc := 168) (tgt := 182) dX7_gets_168 (by decide) (fun c_168 => ?_) (fun c_168 => ?_)
            · refine a_vret (pc := 182) rfl dX7_gets_182 ?_
              simp_all [gtsF, gotF, bitF, pop_le m hm, eq0_of m hm, le0_of m hm, upA_self, up2_eq, upA_upA, upA_ap, up2_upA, upd_ap, -Int32.not_lt, -Int32.not_le, -Nat.not_lt]
            · exact absurd c_168 (by decide)
    · refine a_iload (pc := 74) dX7_gets_74 rfl ?_
      refine a_callS1 (pc := 76) cs_X7_153 ⟨(Nat.le_of_ble_eq_true rfl), (Nat.le_of_ble_eq_true rfl)⟩ (Nat.le_of_ble_eq_true rfl) dX7_gets_76 rfl (c_X7_bits hm) ?_
      rintro q_ u ⟨rfl, rfl⟩
      refine a_iconst (pc := 79) (v := 1) dX7_gets_79 (by decide) ?_
      refine a_icmp_le (pc := 80) (tgt := 99) dX7_gets_80 (by decide) (fun c_80 => ?_) (fun c_80 => ?_)
      · refine a_iload (pc := 99) dX7_gets_99 rfl ?_
        refine a_iload_n (pc := 101) dX7_gets_101 rfl rfl ?_
        refine a_callS2 (pc := 102) cs_X7_105 ⟨(Nat.le_of_ble_eq_true rfl), (Nat.le_of_ble_eq_true rfl)⟩ (Nat.le_of_ble_eq_true rfl) dX7_gets_102 rfl c_X7_has ?_
        rintro q_ u ⟨hq102, rfl⟩
        refine a_if_ne (pc := 105) (tgt := 166) dX7_gets_105 (by decide) (fun c_105 => ?_) (fun c_105 => ?_)
        · refine a_iload (pc := 166) dX7_gets_166 rfl ?_
          refine a_if_eq (pc := 168) (tgt := 182) dX7_gets_168 (by decide) (fun c_168 => ?_) (fun c_168 => ?_)
          · refine a_vret (pc := 182) rfl dX7_gets_182 ?_
            simp_all [gtsF, gotF, bitF, pop_le m hm, eq0_of m hm, le0_of m hm, upA_self, up2_eq, upA_upA, upA_ap, up2_upA, upd_ap, -Int32.not_lt, -Int32.not_le, -Nat.not_lt]
          · exact absurd c_168 (by decide)
        · refine a_iload (pc := 108) dX7_gets_108 rfl ?_
          refine a_if_le (pc := 110) (tgt := 166) dX7_gets_110 (by decide) (fun c_110 => ?_) (fun c_110 => ?_)
          · refine a_iload (pc := 166) dX7_gets_166 rfl ?_
            refine a_if_eq (pc := 168) (tgt := 182) dX7_gets_168 (by decide) (fun c_168 => ?_) (fun c_168 => ?_)
            · refine a_vret (pc := 182) rfl dX7_gets_182 ?_
              simp_all [gtsF, gotF, bitF, pop_le m hm, eq0_of m hm, le0_of m hm, upA_self, up2_eq, upA_upA, upA_ap, up2_upA, upd_ap, -Int32.not_lt, -Int32.not_le, -Nat.not_lt]
            · exact absurd c_168 (by decide)
          · refine a_iconst (pc := 113) (v := 0) dX7_gets_113 (by decide) ?_
            refine a_istore (pc := 114) (al' := [some (.ref _), some (.int _), some (.int _), some (.int _), some (.int _), some (.int _), some (.int _), some (.int _), some (.int _), some (.int _)]) dX7_gets_114 (by decide) rfl rfl ?_
            have hm0 : ¬ m = 0 := fun e => c_110 (by rw [e]; decide)
            have hns : ¬ sd >>> (nI i &&& 31) &&& 1 = 1 := hq102.elim (fun h => absurd (h.1.symm.trans c_105) (by decide)) (fun h => h.2)
            refine l_X7_gets hm hm0 ?_
            rw [hjl]
            refine a_aload_n (pc := 132) dX7_gets_132 rfl rfl ?_
            refine a_getr (pc := 133) fl_X7_25 (by assumption) (by decide) (by rfl) dX7_gets_133 ?_
            refine a_iload (pc := 136) dX7_gets_136 rfl ?_
            refine a_iald (pc := 138)  (by assumption) rfl (by omega) (by decide) dX7_gets_138 ?_
            refine a_iload_n (pc := 139) dX7_gets_139 rfl rfl ?_
            refine a_icmp_ne (pc := 140) (tgt := 157) dX7_gets_140 (by decide) (fun c_140 => ?_) (fun c_140 => ?_)
            · refine a_aload_n (pc := 157) dX7_gets_157 rfl rfl ?_
              refine a_iload_n (pc := 158) dX7_gets_158 rfl rfl ?_
              refine a_iload_n (pc := 159) dX7_gets_159 rfl rfl ?_
              refine a_iload (pc := 160) dX7_gets_160 rfl ?_
              refine a_iload_n (pc := 162) dX7_gets_162 rfl rfl ?_
              refine a_callV4 (pc := 163) ck_X7_160 ⟨(Nat.le_of_ble_eq_true rfl), (Nat.le_of_ble_eq_true rfl)⟩ (by assumption) (by decide) (Nat.le_of_ble_eq_true rfl) dX7_gets_163 rfl (c_X7_overhears (h := h) hr hi hj6 hhl hhd) ?_
              rintro u rfl
              refine a_iload (pc := 166) dX7_gets_166 rfl ?_
              refine a_if_eq (pc := 168) (tgt := 182) dX7_gets_168 (by decide) (fun c_168 => ?_) (fun c_168 => ?_)
              · refine a_vret (pc := 182) rfl dX7_gets_182 ?_
                simp_all [gtsF, gotF, bitF, pop_le m hm, eq0_of m hm, le0_of m hm, upA_self, up2_eq, upA_upA, upA_ap, up2_upA, upd_ap, -Int32.not_lt, -Int32.not_le, -Nat.not_lt]
              · exact absurd c_168 (by decide)
            · refine a_aload_n (pc := 143) dX7_gets_143 rfl rfl ?_
              refine a_iload_n (pc := 144) dX7_gets_144 rfl rfl ?_
              refine a_iload_n (pc := 145) dX7_gets_145 rfl rfl ?_
              refine a_iload (pc := 146) dX7_gets_146 rfl ?_
              refine a_iload_n (pc := 148) dX7_gets_148 rfl rfl ?_
              refine a_callI4 (pc := 149) ck_X7_156 ⟨(Nat.le_of_ble_eq_true rfl), (Nat.le_of_ble_eq_true rfl)⟩ (by assumption) (by decide) (Nat.le_of_ble_eq_true rfl) dX7_gets_149 rfl (c_X7_takesOwn (n := n) (t := t) hr hi hj6 (hjn ▸ hk hm0 hns) hs2 hL ht htl) ?_
              rintro q_ u ⟨rfl, rfl⟩
              refine a_istore (pc := 152) (al' := [some (.ref _), some (.int _), some (.int _), some (.int _), some (.int _), some (.int _), some (.int _), some (.int _), some (.int _), some (.int _)]) dX7_gets_152 (by decide) rfl rfl ?_
              refine a_goto (pc := 154) (tgt := 166) dX7_gets_154 (by decide) ?_
              refine a_iload (pc := 166) dX7_gets_166 rfl ?_
              refine a_if_eq (pc := 168) (tgt := 182) dX7_gets_168 (by decide) (fun c_168 => ?_) (fun c_168 => ?_)
              · refine a_vret (pc := 182) rfl dX7_gets_182 ?_
                simp_all [gtsF, gotF, bitF, pop_le m hm, eq0_of m hm, le0_of m hm, upA_self, up2_eq, upA_upA, upA_ap, up2_upA, upd_ap, -Int32.not_lt, -Int32.not_le, -Nat.not_lt]
              · exact absurd c_168 (by decide)
      · refine a_aload_n (pc := 83) dX7_gets_83 rfl rfl ?_
        refine a_getr (pc := 84) fl_X7_13 (by assumption) (by decide) (by rfl) dX7_gets_84 ?_
        refine a_iload (pc := 87) dX7_gets_87 rfl ?_
        refine a_iconst (pc := 89) (v := 4) dX7_gets_89 (by decide) ?_
        refine a_iaddN (pc := 90) (a := _) (b := 4) rfl rfl dX7_gets_90 ?_
        refine a_dup2 (pc := 91) dX7_gets_91 rfl rfl ?_
        refine a_iald (pc := 92)  (by assumption) rfl (by omega) (by decide) dX7_gets_92 ?_
        refine a_iconst (pc := 93) (v := 1) dX7_gets_93 (by decide) ?_
        refine a_iadd (pc := 94) dX7_gets_94 ?_
        refine a_iast (pc := 95)  (by assumption) rfl (by omega) (by decide) dX7_gets_95 ?_
        refine a_goto (pc := 96) (tgt := 166) dX7_gets_96 (by decide) ?_
        refine a_iload (pc := 166) dX7_gets_166 rfl ?_
        refine a_if_eq (pc := 168) (tgt := 182) dX7_gets_168 (by decide) (fun c_168 => ?_) (fun c_168 => ?_)
        · refine a_vret (pc := 182) rfl dX7_gets_182 ?_
          simp_all [gtsF, gotF, bitF, pop_le m hm, eq0_of m hm, le0_of m hm, upA_self, up2_eq, upA_upA, upA_ap, up2_upA, upd_ap, -Int32.not_lt, -Int32.not_le, -Nat.not_lt]
        · exact absurd c_168 (by decide)
  · refine a_aload_n (pc := 20) dX7_gets_20 rfl rfl ?_
    refine a_getr (pc := 21) fl_X7_13 (by assumption) (by decide) (by rfl) dX7_gets_21 ?_
    refine a_iload (pc := 24) dX7_gets_24 rfl ?_
    refine a_bipush (pc := 26) (v := 27) dX7_gets_26 (by decide) ?_
    refine a_iaddN (pc := 28) (a := _) (b := 27) rfl rfl dX7_gets_28 ?_
    refine a_iald (pc := 29)  (by assumption) rfl (by omega) (by decide) dX7_gets_29 ?_
    refine a_iload_n (pc := 30) dX7_gets_30 rfl rfl ?_
    refine a_icmp_ne (pc := 31) (tgt := 38) dX7_gets_31 (by decide) (fun c_31 => ?_) (fun c_31 => ?_)
    · refine a_iconst (pc := 38) (v := 0) dX7_gets_38 (by decide) ?_
      refine a_istore (pc := 39) (al' := [some (.ref _), some (.int _), some (.int _), some (.int _), some (.int _), some (.int _), some (.int _), none, none, none]) dX7_gets_39 (by decide) rfl rfl ?_
      refine a_aload_n (pc := 41) dX7_gets_41 rfl rfl ?_
      refine a_getr (pc := 42) fl_X7_13 (by assumption) (by decide) (by rfl) dX7_gets_42 ?_
      refine a_sipush (pc := 45) (v := 440) dX7_gets_45 (by decide) ?_
      refine a_iload_n (pc := 48) dX7_gets_48 rfl rfl ?_
      refine a_imulN (pc := 49) (a := 440) (b := _) rfl rfl dX7_gets_49 ?_
      refine a_sipush (pc := 50) (v := 420) dX7_gets_50 (by decide) ?_
      refine a_iaddN (pc := 53) (a := _) (b := 420) rfl rfl dX7_gets_53 ?_
      refine a_iload_n (pc := 54) dX7_gets_54 rfl rfl ?_
      refine a_iaddN (pc := 55) (a := _) (b := _) rfl rfl dX7_gets_55 ?_
      refine a_iald (pc := 56)  (by assumption) rfl (by omega) (by decide) dX7_gets_56 ?_
      refine a_iload (pc := 57) dX7_gets_57 rfl ?_
      refine a_iand (pc := 59) dX7_gets_59 ?_
      refine a_top (y := nI m) hh ?_
      refine a_istore (pc := 60) (al' := [some (.ref _), some (.int _), some (.int _), some (.int _), some (.int _), some (.int _), some (.int _), some (.int _), none, none]) dX7_gets_60 (by decide) rfl rfl ?_
      refine a_iconst (pc := 62) (v := 0) dX7_gets_62 (by decide) ?_
      refine a_istore (pc := 63) (al' := [some (.ref _), some (.int _), some (.int _), some (.int _), some (.int _), some (.int _), some (.int _), some (.int _), some (.int _), none]) dX7_gets_63 (by decide) rfl rfl ?_
      refine a_iload (pc := 65) dX7_gets_65 rfl ?_
      refine a_iload_n (pc := 67) dX7_gets_67 rfl rfl ?_
      refine a_callS2 (pc := 68) cs_X7_105 ⟨(Nat.le_of_ble_eq_true rfl), (Nat.le_of_ble_eq_true rfl)⟩ (Nat.le_of_ble_eq_true rfl) dX7_gets_68 rfl c_X7_has ?_
      rintro q_ u ⟨hq68, rfl⟩
      refine a_if_ne (pc := 71) (tgt := 99) dX7_gets_71 (by decide) (fun c_71 => ?_) (fun c_71 => ?_)
      · refine a_iload (pc := 99) dX7_gets_99 rfl ?_
        refine a_iload_n (pc := 101) dX7_gets_101 rfl rfl ?_
        refine a_callS2 (pc := 102) cs_X7_105 ⟨(Nat.le_of_ble_eq_true rfl), (Nat.le_of_ble_eq_true rfl)⟩ (Nat.le_of_ble_eq_true rfl) dX7_gets_102 rfl c_X7_has ?_
        rintro q_ u ⟨hq102, rfl⟩
        refine a_if_ne (pc := 105) (tgt := 166) dX7_gets_105 (by decide) (fun c_105 => ?_) (fun c_105 => ?_)
        · refine a_iload (pc := 166) dX7_gets_166 rfl ?_
          refine a_if_eq (pc := 168) (tgt := 182) dX7_gets_168 (by decide) (fun c_168 => ?_) (fun c_168 => ?_)
          · refine a_vret (pc := 182) rfl dX7_gets_182 ?_
            simp_all [gtsF, gotF, bitF, pop_le m hm, eq0_of m hm, le0_of m hm, upA_self, up2_eq, upA_upA, upA_ap, up2_upA, upd_ap, -Int32.not_lt, -Int32.not_le, -Nat.not_lt]
          · exact absurd c_168 (by decide)
        · refine a_iload (pc := 108) dX7_gets_108 rfl ?_
          refine a_if_le (pc := 110) (tgt := 166) dX7_gets_110 (by decide) (fun c_110 => ?_) (fun c_110 => ?_)
          · refine a_iload (pc := 166) dX7_gets_166 rfl ?_
            refine a_if_eq (pc := 168) (tgt := 182) dX7_gets_168 (by decide) (fun c_168 => ?_) (fun c_168 => ?_)
            · refine a_vret (pc := 182) rfl dX7_gets_182 ?_
              simp_all [gtsF, gotF, bitF, pop_le m hm, eq0_of m hm, le0_of m hm, upA_self, up2_eq, upA_upA, upA_ap, up2_upA, upd_ap, -Int32.not_lt, -Int32.not_le, -Nat.not_lt]
            · exact absurd c_168 (by decide)
          · refine a_iconst (pc := 113) (v := 0) dX7_gets_113 (by decide) ?_
            refine a_istore (pc := 114) (al' := [some (.ref _), some (.int _), some (.int _), some (.int _), some (.int _), some (.int _), some (.int _), some (.int _), some (.int _), some (.int _)]) dX7_gets_114 (by decide) rfl rfl ?_
            have hm0 : ¬ m = 0 := fun e => c_110 (by rw [e]; decide)
            have hns : ¬ sd >>> (nI i &&& 31) &&& 1 = 1 := hq102.elim (fun h => absurd (h.1.symm.trans c_105) (by decide)) (fun h => h.2)
            refine l_X7_gets hm hm0 ?_
            rw [hjl]
            refine a_aload_n (pc := 132) dX7_gets_132 rfl rfl ?_
            refine a_getr (pc := 133) fl_X7_25 (by assumption) (by decide) (by rfl) dX7_gets_133 ?_
            refine a_iload (pc := 136) dX7_gets_136 rfl ?_
            refine a_iald (pc := 138)  (by assumption) rfl (by omega) (by decide) dX7_gets_138 ?_
            refine a_iload_n (pc := 139) dX7_gets_139 rfl rfl ?_
            refine a_icmp_ne (pc := 140) (tgt := 157) dX7_gets_140 (by decide) (fun c_140 => ?_) (fun c_140 => ?_)
            · refine a_aload_n (pc := 157) dX7_gets_157 rfl rfl ?_
              refine a_iload_n (pc := 158) dX7_gets_158 rfl rfl ?_
              refine a_iload_n (pc := 159) dX7_gets_159 rfl rfl ?_
              refine a_iload (pc := 160) dX7_gets_160 rfl ?_
              refine a_iload_n (pc := 162) dX7_gets_162 rfl rfl ?_
              refine a_callV4 (pc := 163) ck_X7_160 ⟨(Nat.le_of_ble_eq_true rfl), (Nat.le_of_ble_eq_true rfl)⟩ (by assumption) (by decide) (Nat.le_of_ble_eq_true rfl) dX7_gets_163 rfl (c_X7_overhears (h := h) hr hi hj6 hhl hhd) ?_
              rintro u rfl
              refine a_iload (pc := 166) dX7_gets_166 rfl ?_
              refine a_if_eq (pc := 168) (tgt := 182) dX7_gets_168 (by decide) (fun c_168 => ?_) (fun c_168 => ?_)
              · refine a_vret (pc := 182) rfl dX7_gets_182 ?_
                simp_all [gtsF, gotF, bitF, pop_le m hm, eq0_of m hm, le0_of m hm, upA_self, up2_eq, upA_upA, upA_ap, up2_upA, upd_ap, -Int32.not_lt, -Int32.not_le, -Nat.not_lt]
              · exact absurd c_168 (by decide)
            · refine a_aload_n (pc := 143) dX7_gets_143 rfl rfl ?_
              refine a_iload_n (pc := 144) dX7_gets_144 rfl rfl ?_
              refine a_iload_n (pc := 145) dX7_gets_145 rfl rfl ?_
              refine a_iload (pc := 146) dX7_gets_146 rfl ?_
              refine a_iload_n (pc := 148) dX7_gets_148 rfl rfl ?_
              refine a_callI4 (pc := 149) ck_X7_156 ⟨(Nat.le_of_ble_eq_true rfl), (Nat.le_of_ble_eq_true rfl)⟩ (by assumption) (by decide) (Nat.le_of_ble_eq_true rfl) dX7_gets_149 rfl (c_X7_takesOwn (n := n) (t := t) hr hi hj6 (hjn ▸ hk hm0 hns) hs2 hL ht htl) ?_
              rintro q_ u ⟨rfl, rfl⟩
              refine a_istore (pc := 152) (al' := [some (.ref _), some (.int _), some (.int _), some (.int _), some (.int _), some (.int _), some (.int _), some (.int _), some (.int _), some (.int _)]) dX7_gets_152 (by decide) rfl rfl ?_
              refine a_goto (pc := 154) (tgt := 166) dX7_gets_154 (by decide) ?_
              refine a_iload (pc := 166) dX7_gets_166 rfl ?_
              refine a_if_eq (pc := 168) (tgt := 182) dX7_gets_168 (by decide) (fun c_168 => ?_) (fun c_168 => ?_)
              · refine a_vret (pc := 182) rfl dX7_gets_182 ?_
                simp_all [gtsF, gotF, bitF, pop_le m hm, eq0_of m hm, le0_of m hm, upA_self, up2_eq, upA_upA, upA_ap, up2_upA, upd_ap, -Int32.not_lt, -Int32.not_le, -Nat.not_lt]
              · exact absurd c_168 (by decide)
      · refine a_iload (pc := 74) dX7_gets_74 rfl ?_
        refine a_callS1 (pc := 76) cs_X7_153 ⟨(Nat.le_of_ble_eq_true rfl), (Nat.le_of_ble_eq_true rfl)⟩ (Nat.le_of_ble_eq_true rfl) dX7_gets_76 rfl (c_X7_bits hm) ?_
        rintro q_ u ⟨rfl, rfl⟩
        refine a_iconst (pc := 79) (v := 1) dX7_gets_79 (by decide) ?_
        refine a_icmp_le (pc := 80) (tgt := 99) dX7_gets_80 (by decide) (fun c_80 => ?_) (fun c_80 => ?_)
        · refine a_iload (pc := 99) dX7_gets_99 rfl ?_
          refine a_iload_n (pc := 101) dX7_gets_101 rfl rfl ?_
          refine a_callS2 (pc := 102) cs_X7_105 ⟨(Nat.le_of_ble_eq_true rfl), (Nat.le_of_ble_eq_true rfl)⟩ (Nat.le_of_ble_eq_true rfl) dX7_gets_102 rfl c_X7_has ?_
          rintro q_ u ⟨hq102, rfl⟩
          refine a_if_ne (pc := 105) (tgt := 166) dX7_gets_105 (by decide) (fun c_105 => ?_) (fun c_105 => ?_)
          · refine a_iload (pc := 166) dX7_gets_166 rfl ?_
            refine a_if_eq (pc := 168) (tgt := 182) dX7_gets_168 (by decide) (fun c_168 => ?_) (fun c_168 => ?_)
            · refine a_vret (pc := 182) rfl dX7_gets_182 ?_
              simp_all [gtsF, gotF, bitF, pop_le m hm, eq0_of m hm, le0_of m hm, upA_self, up2_eq, upA_upA, upA_ap, up2_upA, upd_ap, -Int32.not_lt, -Int32.not_le, -Nat.not_lt]
            · exact absurd c_168 (by decide)
          · refine a_iload (pc := 108) dX7_gets_108 rfl ?_
            refine a_if_le (pc := 110) (tgt := 166) dX7_gets_110 (by decide) (fun c_110 => ?_) (fun c_110 => ?_)
            · refine a_iload (pc := 166) dX7_gets_166 rfl ?_
              refine a_if_eq (pc := 168) (tgt := 182) dX7_gets_168 (by decide) (fun c_168 => ?_) (fun c_168 => ?_)
              · refine a_vret (pc := 182) rfl dX7_gets_182 ?_
                simp_all [gtsF, gotF, bitF, pop_le m hm, eq0_of m hm, le0_of m hm, upA_self, up2_eq, upA_upA, upA_ap, up2_upA, upd_ap, -Int32.not_lt, -Int32.not_le, -Nat.not_lt]
              · exact absurd c_168 (by decide)
            · refine a_iconst (pc := 113) (v := 0) dX7_gets_113 (by decide) ?_
              refine a_istore (pc := 114) (al' := [some (.ref _), some (.int _), some (.int _), some (.int _), some (.int _), some (.int _), some (.int _), some (.int _), some (.int _), some (.int _)]) dX7_gets_114 (by decide) rfl rfl ?_
              have hm0 : ¬ m = 0 := fun e => c_110 (by rw [e]; decide)
              have hns : ¬ sd >>> (nI i &&& 31) &&& 1 = 1 := hq102.elim (fun h => absurd (h.1.symm.trans c_105) (by decide)) (fun h => h.2)
              refine l_X7_gets hm hm0 ?_
              rw [hjl]
              refine a_aload_n (pc := 132) dX7_gets_132 rfl rfl ?_
              refine a_getr (pc := 133) fl_X7_25 (by assumption) (by decide) (by rfl) dX7_gets_133 ?_
              refine a_iload (pc := 136) dX7_gets_136 rfl ?_
              refine a_iald (pc := 138)  (by assumption) rfl (by omega) (by decide) dX7_gets_138 ?_
              refine a_iload_n (pc := 139) dX7_gets_139 rfl rfl ?_
              refine a_icmp_ne (pc := 140) (tgt := 157) dX7_gets_140 (by decide) (fun c_140 => ?_) (fun c_140 => ?_)
              · refine a_aload_n (pc := 157) dX7_gets_157 rfl rfl ?_
                refine a_iload_n (pc := 158) dX7_gets_158 rfl rfl ?_
                refine a_iload_n (pc := 159) dX7_gets_159 rfl rfl ?_
                refine a_iload (pc := 160) dX7_gets_160 rfl ?_
                refine a_iload_n (pc := 162) dX7_gets_162 rfl rfl ?_
                refine a_callV4 (pc := 163) ck_X7_160 ⟨(Nat.le_of_ble_eq_true rfl), (Nat.le_of_ble_eq_true rfl)⟩ (by assumption) (by decide) (Nat.le_of_ble_eq_true rfl) dX7_gets_163 rfl (c_X7_overhears (h := h) hr hi hj6 hhl hhd) ?_
                rintro u rfl
                refine a_iload (pc := 166) dX7_gets_166 rfl ?_
                refine a_if_eq (pc := 168) (tgt := 182) dX7_gets_168 (by decide) (fun c_168 => ?_) (fun c_168 => ?_)
                · refine a_vret (pc := 182) rfl dX7_gets_182 ?_
                  simp_all [gtsF, gotF, bitF, pop_le m hm, eq0_of m hm, le0_of m hm, upA_self, up2_eq, upA_upA, upA_ap, up2_upA, upd_ap, -Int32.not_lt, -Int32.not_le, -Nat.not_lt]
                · exact absurd c_168 (by decide)
              · refine a_aload_n (pc := 143) dX7_gets_143 rfl rfl ?_
                refine a_iload_n (pc := 144) dX7_gets_144 rfl rfl ?_
                refine a_iload_n (pc := 145) dX7_gets_145 rfl rfl ?_
                refine a_iload (pc := 146) dX7_gets_146 rfl ?_
                refine a_iload_n (pc := 148) dX7_gets_148 rfl rfl ?_
                refine a_callI4 (pc := 149) ck_X7_156 ⟨(Nat.le_of_ble_eq_true rfl), (Nat.le_of_ble_eq_true rfl)⟩ (by assumption) (by decide) (Nat.le_of_ble_eq_true rfl) dX7_gets_149 rfl (c_X7_takesOwn (n := n) (t := t) hr hi hj6 (hjn ▸ hk hm0 hns) hs2 hL ht htl) ?_
                rintro q_ u ⟨rfl, rfl⟩
                refine a_istore (pc := 152) (al' := [some (.ref _), some (.int _), some (.int _), some (.int _), some (.int _), some (.int _), some (.int _), some (.int _), some (.int _), some (.int _)]) dX7_gets_152 (by decide) rfl rfl ?_
                refine a_goto (pc := 154) (tgt := 166) dX7_gets_154 (by decide) ?_
                refine a_iload (pc := 166) dX7_gets_166 rfl ?_
                refine a_if_eq (pc := 168) (tgt := 182) dX7_gets_168 (by decide) (fun c_168 => ?_) (fun c_168 => ?_)
                · refine a_vret (pc := 182) rfl dX7_gets_182 ?_
                  simp_all [gtsF, gotF, bitF, pop_le m hm, eq0_of m hm, le0_of m hm, upA_self, up2_eq, upA_upA, upA_ap, up2_upA, upd_ap, -Int32.not_lt, -Int32.not_le, -Nat.not_lt]
                · exact absurd c_168 (by decide)
        · refine a_aload_n (pc := 83) dX7_gets_83 rfl rfl ?_
          refine a_getr (pc := 84) fl_X7_13 (by assumption) (by decide) (by rfl) dX7_gets_84 ?_
          refine a_iload (pc := 87) dX7_gets_87 rfl ?_
          refine a_iconst (pc := 89) (v := 4) dX7_gets_89 (by decide) ?_
          refine a_iaddN (pc := 90) (a := _) (b := 4) rfl rfl dX7_gets_90 ?_
          refine a_dup2 (pc := 91) dX7_gets_91 rfl rfl ?_
          refine a_iald (pc := 92)  (by assumption) rfl (by omega) (by decide) dX7_gets_92 ?_
          refine a_iconst (pc := 93) (v := 1) dX7_gets_93 (by decide) ?_
          refine a_iadd (pc := 94) dX7_gets_94 ?_
          refine a_iast (pc := 95)  (by assumption) rfl (by omega) (by decide) dX7_gets_95 ?_
          refine a_goto (pc := 96) (tgt := 166) dX7_gets_96 (by decide) ?_
          refine a_iload (pc := 166) dX7_gets_166 rfl ?_
          refine a_if_eq (pc := 168) (tgt := 182) dX7_gets_168 (by decide) (fun c_168 => ?_) (fun c_168 => ?_)
          · refine a_vret (pc := 182) rfl dX7_gets_182 ?_
            simp_all [gtsF, gotF, bitF, pop_le m hm, eq0_of m hm, le0_of m hm, upA_self, up2_eq, upA_upA, upA_ap, up2_upA, upd_ap, -Int32.not_lt, -Int32.not_le, -Nat.not_lt]
          · exact absurd c_168 (by decide)
    · refine a_iconst (pc := 34) (v := 1) dX7_gets_34 (by decide) ?_
      refine a_goto (pc := 35) (tgt := 39) dX7_gets_35 (by decide) ?_
      refine a_istore (pc := 39) (al' := [some (.ref _), some (.int _), some (.int _), some (.int _), some (.int _), some (.int _), some (.int _), none, none, none]) dX7_gets_39 (by decide) rfl rfl ?_
      refine a_aload_n (pc := 41) dX7_gets_41 rfl rfl ?_
      refine a_getr (pc := 42) fl_X7_13 (by assumption) (by decide) (by rfl) dX7_gets_42 ?_
      refine a_sipush (pc := 45) (v := 440) dX7_gets_45 (by decide) ?_
      refine a_iload_n (pc := 48) dX7_gets_48 rfl rfl ?_
      refine a_imulN (pc := 49) (a := 440) (b := _) rfl rfl dX7_gets_49 ?_
      refine a_sipush (pc := 50) (v := 420) dX7_gets_50 (by decide) ?_
      refine a_iaddN (pc := 53) (a := _) (b := 420) rfl rfl dX7_gets_53 ?_
      refine a_iload_n (pc := 54) dX7_gets_54 rfl rfl ?_
      refine a_iaddN (pc := 55) (a := _) (b := _) rfl rfl dX7_gets_55 ?_
      refine a_iald (pc := 56)  (by assumption) rfl (by omega) (by decide) dX7_gets_56 ?_
      refine a_iload (pc := 57) dX7_gets_57 rfl ?_
      refine a_iand (pc := 59) dX7_gets_59 ?_
      refine a_top (y := nI m) hh ?_
      refine a_istore (pc := 60) (al' := [some (.ref _), some (.int _), some (.int _), some (.int _), some (.int _), some (.int _), some (.int _), some (.int _), none, none]) dX7_gets_60 (by decide) rfl rfl ?_
      refine a_iconst (pc := 62) (v := 0) dX7_gets_62 (by decide) ?_
      refine a_istore (pc := 63) (al' := [some (.ref _), some (.int _), some (.int _), some (.int _), some (.int _), some (.int _), some (.int _), some (.int _), some (.int _), none]) dX7_gets_63 (by decide) rfl rfl ?_
      refine a_iload (pc := 65) dX7_gets_65 rfl ?_
      refine a_iload_n (pc := 67) dX7_gets_67 rfl rfl ?_
      refine a_callS2 (pc := 68) cs_X7_105 ⟨(Nat.le_of_ble_eq_true rfl), (Nat.le_of_ble_eq_true rfl)⟩ (Nat.le_of_ble_eq_true rfl) dX7_gets_68 rfl c_X7_has ?_
      rintro q_ u ⟨hq68, rfl⟩
      refine a_if_ne (pc := 71) (tgt := 99) dX7_gets_71 (by decide) (fun c_71 => ?_) (fun c_71 => ?_)
      · refine a_iload (pc := 99) dX7_gets_99 rfl ?_
        refine a_iload_n (pc := 101) dX7_gets_101 rfl rfl ?_
        refine a_callS2 (pc := 102) cs_X7_105 ⟨(Nat.le_of_ble_eq_true rfl), (Nat.le_of_ble_eq_true rfl)⟩ (Nat.le_of_ble_eq_true rfl) dX7_gets_102 rfl c_X7_has ?_
        rintro q_ u ⟨hq102, rfl⟩
        refine a_if_ne (pc := 105) (tgt := 166) dX7_gets_105 (by decide) (fun c_105 => ?_) (fun c_105 => ?_)
        · refine a_iload (pc := 166) dX7_gets_166 rfl ?_
          refine a_if_eq (pc := 168) (tgt := 182) dX7_gets_168 (by decide) (fun c_168 => ?_) (fun c_168 => ?_)
          · exact absurd c_168 (by decide)
          · refine a_iload (pc := 171) dX7_gets_171 rfl ?_
            refine a_if_ne (pc := 173) (tgt := 182) dX7_gets_173 (by decide) (fun c_173 => ?_) (fun c_173 => ?_)
            · exact absurd c_173 (by decide)
            · refine a_aload_n (pc := 176) dX7_gets_176 rfl rfl ?_
              refine a_iload_n (pc := 177) dX7_gets_177 rfl rfl ?_
              refine a_iload_n (pc := 178) dX7_gets_178 rfl rfl ?_
              refine a_callV2 (pc := 179) ck_X7_163 ⟨(Nat.le_of_ble_eq_true rfl), (Nat.le_of_ble_eq_true rfl)⟩ (by assumption) (by decide) (Nat.le_of_ble_eq_true rfl) dX7_gets_179 rfl (c_X7_fails (n := n) hr hi (hsz c_17).1 (by first | exact (hsz c_17).2 | (simp [up2_eq, upA_upA, upA_ap, up2_upA, upd_ap]; first | exact (hsz c_17).2 | (rw [ohs_keep (k := 8) (by decide) (by decide) hhl]; exact (hsz c_17).2) | (rw [tko_keep (k := 8) (by decide) (by assumption)]; exact (hsz c_17).2))) hL hM (by first | exact hw | (simp [up2_eq, upA_upA, upA_ap, up2_upA, upd_ap]; first | exact hw | (have e0 := ohs_keep (f := ν 2) (b := 440 * r) (i := i) (j := jj) (h := h) (k := 0) (sl := sl) (w := ν 5 jj) (wh := ν 6 jj) (wd := ν 7 jj) (p := ν 8 jj) (by decide) (by decide) hhl; rw [Nat.add_zero] at e0; rw [e0]; exact hw) | (have e0 := tko_keep (f := ν 2) (b := 440 * r) (i := i) (j := jj) (n := n) (t := t) (k := 0) (sl := sl) (w := ν 5 jj) (wd := ν 7 jj) (p := ν 8 jj) (L := ν 0 3) (by decide) c_173; rw [Nat.add_zero] at e0; rw [e0]; exact hw)))) ?_
              rintro u rfl
              refine a_vret (pc := 182) rfl dX7_gets_182 ?_
              simp_all [gtsF, gotF, bitF, pop_le m hm, eq0_of m hm, le0_of m hm, upA_self, up2_eq, upA_upA, upA_ap, up2_upA, upd_ap, -Int32.not_lt, -Int32.not_le, -Nat.not_lt]
        · refine a_iload (pc := 108) dX7_gets_108 rfl ?_
          refine a_if_le (pc := 110) (tgt := 166) dX7_gets_110 (by decide) (fun c_110 => ?_) (fun c_110 => ?_)
          · refine a_iload (pc := 166) dX7_gets_166 rfl ?_
            refine a_if_eq (pc := 168) (tgt := 182) dX7_gets_168 (by decide) (fun c_168 => ?_) (fun c_168 => ?_)
            · exact absurd c_168 (by decide)
            · refine a_iload (pc := 171) dX7_gets_171 rfl ?_
              refine a_if_ne (pc := 173) (tgt := 182) dX7_gets_173 (by decide) (fun c_173 => ?_) (fun c_173 => ?_)
              · exact absurd c_173 (by decide)
              · refine a_aload_n (pc := 176) dX7_gets_176 rfl rfl ?_
                refine a_iload_n (pc := 177) dX7_gets_177 rfl rfl ?_
                refine a_iload_n (pc := 178) dX7_gets_178 rfl rfl ?_
                refine a_callV2 (pc := 179) ck_X7_163 ⟨(Nat.le_of_ble_eq_true rfl), (Nat.le_of_ble_eq_true rfl)⟩ (by assumption) (by decide) (Nat.le_of_ble_eq_true rfl) dX7_gets_179 rfl (c_X7_fails (n := n) hr hi (hsz c_17).1 (by first | exact (hsz c_17).2 | (simp [up2_eq, upA_upA, upA_ap, up2_upA, upd_ap]; first | exact (hsz c_17).2 | (rw [ohs_keep (k := 8) (by decide) (by decide) hhl]; exact (hsz c_17).2) | (rw [tko_keep (k := 8) (by decide) (by assumption)]; exact (hsz c_17).2))) hL hM (by first | exact hw | (simp [up2_eq, upA_upA, upA_ap, up2_upA, upd_ap]; first | exact hw | (have e0 := ohs_keep (f := ν 2) (b := 440 * r) (i := i) (j := jj) (h := h) (k := 0) (sl := sl) (w := ν 5 jj) (wh := ν 6 jj) (wd := ν 7 jj) (p := ν 8 jj) (by decide) (by decide) hhl; rw [Nat.add_zero] at e0; rw [e0]; exact hw) | (have e0 := tko_keep (f := ν 2) (b := 440 * r) (i := i) (j := jj) (n := n) (t := t) (k := 0) (sl := sl) (w := ν 5 jj) (wd := ν 7 jj) (p := ν 8 jj) (L := ν 0 3) (by decide) c_173; rw [Nat.add_zero] at e0; rw [e0]; exact hw)))) ?_
                rintro u rfl
                refine a_vret (pc := 182) rfl dX7_gets_182 ?_
                simp_all [gtsF, gotF, bitF, pop_le m hm, eq0_of m hm, le0_of m hm, upA_self, up2_eq, upA_upA, upA_ap, up2_upA, upd_ap, -Int32.not_lt, -Int32.not_le, -Nat.not_lt]
          · refine a_iconst (pc := 113) (v := 0) dX7_gets_113 (by decide) ?_
            refine a_istore (pc := 114) (al' := [some (.ref _), some (.int _), some (.int _), some (.int _), some (.int _), some (.int _), some (.int _), some (.int _), some (.int _), some (.int _)]) dX7_gets_114 (by decide) rfl rfl ?_
            have hm0 : ¬ m = 0 := fun e => c_110 (by rw [e]; decide)
            have hns : ¬ sd >>> (nI i &&& 31) &&& 1 = 1 := hq102.elim (fun h => absurd (h.1.symm.trans c_105) (by decide)) (fun h => h.2)
            refine l_X7_gets hm hm0 ?_
            rw [hjl]
            refine a_aload_n (pc := 132) dX7_gets_132 rfl rfl ?_
            refine a_getr (pc := 133) fl_X7_25 (by assumption) (by decide) (by rfl) dX7_gets_133 ?_
            refine a_iload (pc := 136) dX7_gets_136 rfl ?_
            refine a_iald (pc := 138)  (by assumption) rfl (by omega) (by decide) dX7_gets_138 ?_
            refine a_iload_n (pc := 139) dX7_gets_139 rfl rfl ?_
            refine a_icmp_ne (pc := 140) (tgt := 157) dX7_gets_140 (by decide) (fun c_140 => ?_) (fun c_140 => ?_)
            · refine a_aload_n (pc := 157) dX7_gets_157 rfl rfl ?_
              refine a_iload_n (pc := 158) dX7_gets_158 rfl rfl ?_
              refine a_iload_n (pc := 159) dX7_gets_159 rfl rfl ?_
              refine a_iload (pc := 160) dX7_gets_160 rfl ?_
              refine a_iload_n (pc := 162) dX7_gets_162 rfl rfl ?_
              refine a_callV4 (pc := 163) ck_X7_160 ⟨(Nat.le_of_ble_eq_true rfl), (Nat.le_of_ble_eq_true rfl)⟩ (by assumption) (by decide) (Nat.le_of_ble_eq_true rfl) dX7_gets_163 rfl (c_X7_overhears (h := h) hr hi hj6 hhl hhd) ?_
              rintro u rfl
              refine a_iload (pc := 166) dX7_gets_166 rfl ?_
              refine a_if_eq (pc := 168) (tgt := 182) dX7_gets_168 (by decide) (fun c_168 => ?_) (fun c_168 => ?_)
              · exact absurd c_168 (by decide)
              · refine a_iload (pc := 171) dX7_gets_171 rfl ?_
                refine a_if_ne (pc := 173) (tgt := 182) dX7_gets_173 (by decide) (fun c_173 => ?_) (fun c_173 => ?_)
                · exact absurd c_173 (by decide)
                · refine a_aload_n (pc := 176) dX7_gets_176 rfl rfl ?_
                  refine a_iload_n (pc := 177) dX7_gets_177 rfl rfl ?_
                  refine a_iload_n (pc := 178) dX7_gets_178 rfl rfl ?_
                  refine a_callV2 (pc := 179) ck_X7_163 ⟨(Nat.le_of_ble_eq_true rfl), (Nat.le_of_ble_eq_true rfl)⟩ (by assumption) (by decide) (Nat.le_of_ble_eq_true rfl) dX7_gets_179 rfl (c_X7_fails (n := n) hr hi (hsz c_17).1 (by first | exact (hsz c_17).2 | (simp [up2_eq, upA_upA, upA_ap, up2_upA, upd_ap]; first | exact (hsz c_17).2 | (rw [ohs_keep (k := 8) (by decide) (by decide) hhl]; exact (hsz c_17).2) | (rw [tko_keep (k := 8) (by decide) (by assumption)]; exact (hsz c_17).2))) hL hM (by first | exact hw | (simp [up2_eq, upA_upA, upA_ap, up2_upA, upd_ap]; first | exact hw | (have e0 := ohs_keep (f := ν 2) (b := 440 * r) (i := i) (j := jj) (h := h) (k := 0) (sl := sl) (w := ν 5 jj) (wh := ν 6 jj) (wd := ν 7 jj) (p := ν 8 jj) (by decide) (by decide) hhl; rw [Nat.add_zero] at e0; rw [e0]; exact hw) | (have e0 := tko_keep (f := ν 2) (b := 440 * r) (i := i) (j := jj) (n := n) (t := t) (k := 0) (sl := sl) (w := ν 5 jj) (wd := ν 7 jj) (p := ν 8 jj) (L := ν 0 3) (by decide) c_173; rw [Nat.add_zero] at e0; rw [e0]; exact hw)))) ?_
                  rintro u rfl
                  refine a_vret (pc := 182) rfl dX7_gets_182 ?_
                  simp_all [gtsF, gotF, bitF, pop_le m hm, eq0_of m hm, le0_of m hm, upA_self, up2_eq, upA_upA, upA_ap, up2_upA, upd_ap, -Int32.not_lt, -Int32.not_le, -Nat.not_lt]
            · refine a_aload_n (pc := 143) dX7_gets_143 rfl rfl ?_
              refine a_iload_n (pc := 144) dX7_gets_144 rfl rfl ?_
              refine a_iload_n (pc := 145) dX7_gets_145 rfl rfl ?_
              refine a_iload (pc := 146) dX7_gets_146 rfl ?_
              refine a_iload_n (pc := 148) dX7_gets_148 rfl rfl ?_
              refine a_callI4 (pc := 149) ck_X7_156 ⟨(Nat.le_of_ble_eq_true rfl), (Nat.le_of_ble_eq_true rfl)⟩ (by assumption) (by decide) (Nat.le_of_ble_eq_true rfl) dX7_gets_149 rfl (c_X7_takesOwn (n := n) (t := t) hr hi hj6 (hjn ▸ hk hm0 hns) hs2 hL ht htl) ?_
              rintro q_ u ⟨rfl, rfl⟩
              refine a_istore (pc := 152) (al' := [some (.ref _), some (.int _), some (.int _), some (.int _), some (.int _), some (.int _), some (.int _), some (.int _), some (.int _), some (.int _)]) dX7_gets_152 (by decide) rfl rfl ?_
              refine a_goto (pc := 154) (tgt := 166) dX7_gets_154 (by decide) ?_
              refine a_iload (pc := 166) dX7_gets_166 rfl ?_
              refine a_if_eq (pc := 168) (tgt := 182) dX7_gets_168 (by decide) (fun c_168 => ?_) (fun c_168 => ?_)
              · exact absurd c_168 (by decide)
              · refine a_iload (pc := 171) dX7_gets_171 rfl ?_
                refine a_if_ne (pc := 173) (tgt := 182) dX7_gets_173 (by decide) (fun c_173 => ?_) (fun c_173 => ?_)
                · refine a_vret (pc := 182) rfl dX7_gets_182 ?_
                  simp_all [gtsF, gotF, bitF, pop_le m hm, eq0_of m hm, le0_of m hm, upA_self, up2_eq, upA_upA, upA_ap, up2_upA, upd_ap, -Int32.not_lt, -Int32.not_le, -Nat.not_lt]
                · refine a_aload_n (pc := 176) dX7_gets_176 rfl rfl ?_
                  refine a_iload_n (pc := 177) dX7_gets_177 rfl rfl ?_
                  refine a_iload_n (pc := 178) dX7_gets_178 rfl rfl ?_
                  refine a_callV2 (pc := 179) ck_X7_163 ⟨(Nat.le_of_ble_eq_true rfl), (Nat.le_of_ble_eq_true rfl)⟩ (by assumption) (by decide) (Nat.le_of_ble_eq_true rfl) dX7_gets_179 rfl (c_X7_fails (n := n) hr hi (hsz c_17).1 (by first | exact (hsz c_17).2 | (simp [up2_eq, upA_upA, upA_ap, up2_upA, upd_ap]; first | exact (hsz c_17).2 | (rw [ohs_keep (k := 8) (by decide) (by decide) hhl]; exact (hsz c_17).2) | (rw [tko_keep (k := 8) (by decide) (by assumption)]; exact (hsz c_17).2))) hL hM (by first | exact hw | (simp [up2_eq, upA_upA, upA_ap, up2_upA, upd_ap]; first | exact hw | (have e0 := ohs_keep (f := ν 2) (b := 440 * r) (i := i) (j := jj) (h := h) (k := 0) (sl := sl) (w := ν 5 jj) (wh := ν 6 jj) (wd := ν 7 jj) (p := ν 8 jj) (by decide) (by decide) hhl; rw [Nat.add_zero] at e0; rw [e0]; exact hw) | (have e0 := tko_keep (f := ν 2) (b := 440 * r) (i := i) (j := jj) (n := n) (t := t) (k := 0) (sl := sl) (w := ν 5 jj) (wd := ν 7 jj) (p := ν 8 jj) (L := ν 0 3) (by decide) c_173; rw [Nat.add_zero] at e0; rw [e0]; exact hw)))) ?_
                  rintro u rfl
                  refine a_vret (pc := 182) rfl dX7_gets_182 ?_
                  simp_all [gtsF, gotF, bitF, pop_le m hm, eq0_of m hm, le0_of m hm, upA_self, up2_eq, upA_upA, upA_ap, up2_upA, upd_ap, -Int32.not_lt, -Int32.not_le, -Nat.not_lt]
      · refine a_iload (pc := 74) dX7_gets_74 rfl ?_
        refine a_callS1 (pc := 76) cs_X7_153 ⟨(Nat.le_of_ble_eq_true rfl), (Nat.le_of_ble_eq_true rfl)⟩ (Nat.le_of_ble_eq_true rfl) dX7_gets_76 rfl (c_X7_bits hm) ?_
        rintro q_ u ⟨rfl, rfl⟩
        refine a_iconst (pc := 79) (v := 1) dX7_gets_79 (by decide) ?_
        refine a_icmp_le (pc := 80) (tgt := 99) dX7_gets_80 (by decide) (fun c_80 => ?_) (fun c_80 => ?_)
        · refine a_iload (pc := 99) dX7_gets_99 rfl ?_
          refine a_iload_n (pc := 101) dX7_gets_101 rfl rfl ?_
          refine a_callS2 (pc := 102) cs_X7_105 ⟨(Nat.le_of_ble_eq_true rfl), (Nat.le_of_ble_eq_true rfl)⟩ (Nat.le_of_ble_eq_true rfl) dX7_gets_102 rfl c_X7_has ?_
          rintro q_ u ⟨hq102, rfl⟩
          refine a_if_ne (pc := 105) (tgt := 166) dX7_gets_105 (by decide) (fun c_105 => ?_) (fun c_105 => ?_)
          · refine a_iload (pc := 166) dX7_gets_166 rfl ?_
            refine a_if_eq (pc := 168) (tgt := 182) dX7_gets_168 (by decide) (fun c_168 => ?_) (fun c_168 => ?_)
            · exact absurd c_168 (by decide)
            · refine a_iload (pc := 171) dX7_gets_171 rfl ?_
              refine a_if_ne (pc := 173) (tgt := 182) dX7_gets_173 (by decide) (fun c_173 => ?_) (fun c_173 => ?_)
              · exact absurd c_173 (by decide)
              · refine a_aload_n (pc := 176) dX7_gets_176 rfl rfl ?_
                refine a_iload_n (pc := 177) dX7_gets_177 rfl rfl ?_
                refine a_iload_n (pc := 178) dX7_gets_178 rfl rfl ?_
                refine a_callV2 (pc := 179) ck_X7_163 ⟨(Nat.le_of_ble_eq_true rfl), (Nat.le_of_ble_eq_true rfl)⟩ (by assumption) (by decide) (Nat.le_of_ble_eq_true rfl) dX7_gets_179 rfl (c_X7_fails (n := n) hr hi (hsz c_17).1 (by first | exact (hsz c_17).2 | (simp [up2_eq, upA_upA, upA_ap, up2_upA, upd_ap]; first | exact (hsz c_17).2 | (rw [ohs_keep (k := 8) (by decide) (by decide) hhl]; exact (hsz c_17).2) | (rw [tko_keep (k := 8) (by decide) (by assumption)]; exact (hsz c_17).2))) hL hM (by first | exact hw | (simp [up2_eq, upA_upA, upA_ap, up2_upA, upd_ap]; first | exact hw | (have e0 := ohs_keep (f := ν 2) (b := 440 * r) (i := i) (j := jj) (h := h) (k := 0) (sl := sl) (w := ν 5 jj) (wh := ν 6 jj) (wd := ν 7 jj) (p := ν 8 jj) (by decide) (by decide) hhl; rw [Nat.add_zero] at e0; rw [e0]; exact hw) | (have e0 := tko_keep (f := ν 2) (b := 440 * r) (i := i) (j := jj) (n := n) (t := t) (k := 0) (sl := sl) (w := ν 5 jj) (wd := ν 7 jj) (p := ν 8 jj) (L := ν 0 3) (by decide) c_173; rw [Nat.add_zero] at e0; rw [e0]; exact hw)))) ?_
                rintro u rfl
                refine a_vret (pc := 182) rfl dX7_gets_182 ?_
                simp_all [gtsF, gotF, bitF, pop_le m hm, eq0_of m hm, le0_of m hm, upA_self, up2_eq, upA_upA, upA_ap, up2_upA, upd_ap, -Int32.not_lt, -Int32.not_le, -Nat.not_lt]
          · refine a_iload (pc := 108) dX7_gets_108 rfl ?_
            refine a_if_le (pc := 110) (tgt := 166) dX7_gets_110 (by decide) (fun c_110 => ?_) (fun c_110 => ?_)
            · refine a_iload (pc := 166) dX7_gets_166 rfl ?_
              refine a_if_eq (pc := 168) (tgt := 182) dX7_gets_168 (by decide) (fun c_168 => ?_) (fun c_168 => ?_)
              · exact absurd c_168 (by decide)
              · refine a_iload (pc := 171) dX7_gets_171 rfl ?_
                refine a_if_ne (pc := 173) (tgt := 182) dX7_gets_173 (by decide) (fun c_173 => ?_) (fun c_173 => ?_)
                · exact absurd c_173 (by decide)
                · refine a_aload_n (pc := 176) dX7_gets_176 rfl rfl ?_
                  refine a_iload_n (pc := 177) dX7_gets_177 rfl rfl ?_
                  refine a_iload_n (pc := 178) dX7_gets_178 rfl rfl ?_
                  refine a_callV2 (pc := 179) ck_X7_163 ⟨(Nat.le_of_ble_eq_true rfl), (Nat.le_of_ble_eq_true rfl)⟩ (by assumption) (by decide) (Nat.le_of_ble_eq_true rfl) dX7_gets_179 rfl (c_X7_fails (n := n) hr hi (hsz c_17).1 (by first | exact (hsz c_17).2 | (simp [up2_eq, upA_upA, upA_ap, up2_upA, upd_ap]; first | exact (hsz c_17).2 | (rw [ohs_keep (k := 8) (by decide) (by decide) hhl]; exact (hsz c_17).2) | (rw [tko_keep (k := 8) (by decide) (by assumption)]; exact (hsz c_17).2))) hL hM (by first | exact hw | (simp [up2_eq, upA_upA, upA_ap, up2_upA, upd_ap]; first | exact hw | (have e0 := ohs_keep (f := ν 2) (b := 440 * r) (i := i) (j := jj) (h := h) (k := 0) (sl := sl) (w := ν 5 jj) (wh := ν 6 jj) (wd := ν 7 jj) (p := ν 8 jj) (by decide) (by decide) hhl; rw [Nat.add_zero] at e0; rw [e0]; exact hw) | (have e0 := tko_keep (f := ν 2) (b := 440 * r) (i := i) (j := jj) (n := n) (t := t) (k := 0) (sl := sl) (w := ν 5 jj) (wd := ν 7 jj) (p := ν 8 jj) (L := ν 0 3) (by decide) c_173; rw [Nat.add_zero] at e0; rw [e0]; exact hw)))) ?_
                  rintro u rfl
                  refine a_vret (pc := 182) rfl dX7_gets_182 ?_
                  simp_all [gtsF, gotF, bitF, pop_le m hm, eq0_of m hm, le0_of m hm, upA_self, up2_eq, upA_upA, upA_ap, up2_upA, upd_ap, -Int32.not_lt, -Int32.not_le, -Nat.not_lt]
            · refine a_iconst (pc := 113) (v := 0) dX7_gets_113 (by decide) ?_
              refine a_istore (pc := 114) (al' := [some (.ref _), some (.int _), some (.int _), some (.int _), some (.int _), some (.int _), some (.int _), some (.int _), some (.int _), some (.int _)]) dX7_gets_114 (by decide) rfl rfl ?_
              have hm0 : ¬ m = 0 := fun e => c_110 (by rw [e]; decide)
              have hns : ¬ sd >>> (nI i &&& 31) &&& 1 = 1 := hq102.elim (fun h => absurd (h.1.symm.trans c_105) (by decide)) (fun h => h.2)
              refine l_X7_gets hm hm0 ?_
              rw [hjl]
              refine a_aload_n (pc := 132) dX7_gets_132 rfl rfl ?_
              refine a_getr (pc := 133) fl_X7_25 (by assumption) (by decide) (by rfl) dX7_gets_133 ?_
              refine a_iload (pc := 136) dX7_gets_136 rfl ?_
              refine a_iald (pc := 138)  (by assumption) rfl (by omega) (by decide) dX7_gets_138 ?_
              refine a_iload_n (pc := 139) dX7_gets_139 rfl rfl ?_
              refine a_icmp_ne (pc := 140) (tgt := 157) dX7_gets_140 (by decide) (fun c_140 => ?_) (fun c_140 => ?_)
              · refine a_aload_n (pc := 157) dX7_gets_157 rfl rfl ?_
                refine a_iload_n (pc := 158) dX7_gets_158 rfl rfl ?_
                refine a_iload_n (pc := 159) dX7_gets_159 rfl rfl ?_
                refine a_iload (pc := 160) dX7_gets_160 rfl ?_
                refine a_iload_n (pc := 162) dX7_gets_162 rfl rfl ?_
                refine a_callV4 (pc := 163) ck_X7_160 ⟨(Nat.le_of_ble_eq_true rfl), (Nat.le_of_ble_eq_true rfl)⟩ (by assumption) (by decide) (Nat.le_of_ble_eq_true rfl) dX7_gets_163 rfl (c_X7_overhears (h := h) hr hi hj6 hhl hhd) ?_
                rintro u rfl
                refine a_iload (pc := 166) dX7_gets_166 rfl ?_
                refine a_if_eq (pc := 168) (tgt := 182) dX7_gets_168 (by decide) (fun c_168 => ?_) (fun c_168 => ?_)
                · exact absurd c_168 (by decide)
                · refine a_iload (pc := 171) dX7_gets_171 rfl ?_
                  refine a_if_ne (pc := 173) (tgt := 182) dX7_gets_173 (by decide) (fun c_173 => ?_) (fun c_173 => ?_)
                  · exact absurd c_173 (by decide)
                  · refine a_aload_n (pc := 176) dX7_gets_176 rfl rfl ?_
                    refine a_iload_n (pc := 177) dX7_gets_177 rfl rfl ?_
                    refine a_iload_n (pc := 178) dX7_gets_178 rfl rfl ?_
                    refine a_callV2 (pc := 179) ck_X7_163 ⟨(Nat.le_of_ble_eq_true rfl), (Nat.le_of_ble_eq_true rfl)⟩ (by assumption) (by decide) (Nat.le_of_ble_eq_true rfl) dX7_gets_179 rfl (c_X7_fails (n := n) hr hi (hsz c_17).1 (by first | exact (hsz c_17).2 | (simp [up2_eq, upA_upA, upA_ap, up2_upA, upd_ap]; first | exact (hsz c_17).2 | (rw [ohs_keep (k := 8) (by decide) (by decide) hhl]; exact (hsz c_17).2) | (rw [tko_keep (k := 8) (by decide) (by assumption)]; exact (hsz c_17).2))) hL hM (by first | exact hw | (simp [up2_eq, upA_upA, upA_ap, up2_upA, upd_ap]; first | exact hw | (have e0 := ohs_keep (f := ν 2) (b := 440 * r) (i := i) (j := jj) (h := h) (k := 0) (sl := sl) (w := ν 5 jj) (wh := ν 6 jj) (wd := ν 7 jj) (p := ν 8 jj) (by decide) (by decide) hhl; rw [Nat.add_zero] at e0; rw [e0]; exact hw) | (have e0 := tko_keep (f := ν 2) (b := 440 * r) (i := i) (j := jj) (n := n) (t := t) (k := 0) (sl := sl) (w := ν 5 jj) (wd := ν 7 jj) (p := ν 8 jj) (L := ν 0 3) (by decide) c_173; rw [Nat.add_zero] at e0; rw [e0]; exact hw)))) ?_
                    rintro u rfl
                    refine a_vret (pc := 182) rfl dX7_gets_182 ?_
                    simp_all [gtsF, gotF, bitF, pop_le m hm, eq0_of m hm, le0_of m hm, upA_self, up2_eq, upA_upA, upA_ap, up2_upA, upd_ap, -Int32.not_lt, -Int32.not_le, -Nat.not_lt]
              · refine a_aload_n (pc := 143) dX7_gets_143 rfl rfl ?_
                refine a_iload_n (pc := 144) dX7_gets_144 rfl rfl ?_
                refine a_iload_n (pc := 145) dX7_gets_145 rfl rfl ?_
                refine a_iload (pc := 146) dX7_gets_146 rfl ?_
                refine a_iload_n (pc := 148) dX7_gets_148 rfl rfl ?_
                refine a_callI4 (pc := 149) ck_X7_156 ⟨(Nat.le_of_ble_eq_true rfl), (Nat.le_of_ble_eq_true rfl)⟩ (by assumption) (by decide) (Nat.le_of_ble_eq_true rfl) dX7_gets_149 rfl (c_X7_takesOwn (n := n) (t := t) hr hi hj6 (hjn ▸ hk hm0 hns) hs2 hL ht htl) ?_
                rintro q_ u ⟨rfl, rfl⟩
                refine a_istore (pc := 152) (al' := [some (.ref _), some (.int _), some (.int _), some (.int _), some (.int _), some (.int _), some (.int _), some (.int _), some (.int _), some (.int _)]) dX7_gets_152 (by decide) rfl rfl ?_
                refine a_goto (pc := 154) (tgt := 166) dX7_gets_154 (by decide) ?_
                refine a_iload (pc := 166) dX7_gets_166 rfl ?_
                refine a_if_eq (pc := 168) (tgt := 182) dX7_gets_168 (by decide) (fun c_168 => ?_) (fun c_168 => ?_)
                · exact absurd c_168 (by decide)
                · refine a_iload (pc := 171) dX7_gets_171 rfl ?_
                  refine a_if_ne (pc := 173) (tgt := 182) dX7_gets_173 (by decide) (fun c_173 => ?_) (fun c_173 => ?_)
                  · refine a_vret (pc := 182) rfl dX7_gets_182 ?_
                    simp_all [gtsF, gotF, bitF, pop_le m hm, eq0_of m hm, le0_of m hm, upA_self, up2_eq, upA_upA, upA_ap, up2_upA, upd_ap, -Int32.not_lt, -Int32.not_le, -Nat.not_lt]
                  · refine a_aload_n (pc := 176) dX7_gets_176 rfl rfl ?_
                    refine a_iload_n (pc := 177) dX7_gets_177 rfl rfl ?_
                    refine a_iload_n (pc := 178) dX7_gets_178 rfl rfl ?_
                    refine a_callV2 (pc := 179) ck_X7_163 ⟨(Nat.le_of_ble_eq_true rfl), (Nat.le_of_ble_eq_true rfl)⟩ (by assumption) (by decide) (Nat.le_of_ble_eq_true rfl) dX7_gets_179 rfl (c_X7_fails (n := n) hr hi (hsz c_17).1 (by first | exact (hsz c_17).2 | (simp [up2_eq, upA_upA, upA_ap, up2_upA, upd_ap]; first | exact (hsz c_17).2 | (rw [ohs_keep (k := 8) (by decide) (by decide) hhl]; exact (hsz c_17).2) | (rw [tko_keep (k := 8) (by decide) (by assumption)]; exact (hsz c_17).2))) hL hM (by first | exact hw | (simp [up2_eq, upA_upA, upA_ap, up2_upA, upd_ap]; first | exact hw | (have e0 := ohs_keep (f := ν 2) (b := 440 * r) (i := i) (j := jj) (h := h) (k := 0) (sl := sl) (w := ν 5 jj) (wh := ν 6 jj) (wd := ν 7 jj) (p := ν 8 jj) (by decide) (by decide) hhl; rw [Nat.add_zero] at e0; rw [e0]; exact hw) | (have e0 := tko_keep (f := ν 2) (b := 440 * r) (i := i) (j := jj) (n := n) (t := t) (k := 0) (sl := sl) (w := ν 5 jj) (wd := ν 7 jj) (p := ν 8 jj) (L := ν 0 3) (by decide) c_173; rw [Nat.add_zero] at e0; rw [e0]; exact hw)))) ?_
                    rintro u rfl
                    refine a_vret (pc := 182) rfl dX7_gets_182 ?_
                    simp_all [gtsF, gotF, bitF, pop_le m hm, eq0_of m hm, le0_of m hm, upA_self, up2_eq, upA_upA, upA_ap, up2_upA, upd_ap, -Int32.not_lt, -Int32.not_le, -Nat.not_lt]
        · refine a_aload_n (pc := 83) dX7_gets_83 rfl rfl ?_
          refine a_getr (pc := 84) fl_X7_13 (by assumption) (by decide) (by rfl) dX7_gets_84 ?_
          refine a_iload (pc := 87) dX7_gets_87 rfl ?_
          refine a_iconst (pc := 89) (v := 4) dX7_gets_89 (by decide) ?_
          refine a_iaddN (pc := 90) (a := _) (b := 4) rfl rfl dX7_gets_90 ?_
          refine a_dup2 (pc := 91) dX7_gets_91 rfl rfl ?_
          refine a_iald (pc := 92)  (by assumption) rfl (by omega) (by decide) dX7_gets_92 ?_
          refine a_iconst (pc := 93) (v := 1) dX7_gets_93 (by decide) ?_
          refine a_iadd (pc := 94) dX7_gets_94 ?_
          refine a_iast (pc := 95)  (by assumption) rfl (by omega) (by decide) dX7_gets_95 ?_
          refine a_goto (pc := 96) (tgt := 166) dX7_gets_96 (by decide) ?_
          refine a_iload (pc := 166) dX7_gets_166 rfl ?_
          refine a_if_eq (pc := 168) (tgt := 182) dX7_gets_168 (by decide) (fun c_168 => ?_) (fun c_168 => ?_)
          · exact absurd c_168 (by decide)
          · refine a_iload (pc := 171) dX7_gets_171 rfl ?_
            refine a_if_ne (pc := 173) (tgt := 182) dX7_gets_173 (by decide) (fun c_173 => ?_) (fun c_173 => ?_)
            · exact absurd c_173 (by decide)
            · refine a_aload_n (pc := 176) dX7_gets_176 rfl rfl ?_
              refine a_iload_n (pc := 177) dX7_gets_177 rfl rfl ?_
              refine a_iload_n (pc := 178) dX7_gets_178 rfl rfl ?_
              refine a_callV2 (pc := 179) ck_X7_163 ⟨(Nat.le_of_ble_eq_true rfl), (Nat.le_of_ble_eq_true rfl)⟩ (by assumption) (by decide) (Nat.le_of_ble_eq_true rfl) dX7_gets_179 rfl (c_X7_fails (n := n) hr hi (hsz c_17).1 (by first | exact (hsz c_17).2 | (simp [up2_eq, upA_upA, upA_ap, up2_upA, upd_ap]; first | exact (hsz c_17).2 | (rw [ohs_keep (k := 8) (by decide) (by decide) hhl]; exact (hsz c_17).2) | (rw [tko_keep (k := 8) (by decide) (by assumption)]; exact (hsz c_17).2))) hL hM (by first | exact hw | (simp [up2_eq, upA_upA, upA_ap, up2_upA, upd_ap]; first | exact hw | (have e0 := ohs_keep (f := ν 2) (b := 440 * r) (i := i) (j := jj) (h := h) (k := 0) (sl := sl) (w := ν 5 jj) (wh := ν 6 jj) (wd := ν 7 jj) (p := ν 8 jj) (by decide) (by decide) hhl; rw [Nat.add_zero] at e0; rw [e0]; exact hw) | (have e0 := tko_keep (f := ν 2) (b := 440 * r) (i := i) (j := jj) (n := n) (t := t) (k := 0) (sl := sl) (w := ν 5 jj) (wd := ν 7 jj) (p := ν 8 jj) (L := ν 0 3) (by decide) c_173; rw [Nat.add_zero] at e0; rw [e0]; exact hw)))) ?_
              rintro u rfl
              refine a_vret (pc := 182) rfl dX7_gets_182 ?_
              simp_all [gtsF, gotF, bitF, pop_le m hm, eq0_of m hm, le0_of m hm, upA_self, up2_eq, upA_upA, upA_ap, up2_upA, upd_ap, -Int32.not_lt, -Int32.not_le, -Nat.not_lt]

