/-! ahead agrees -/
theorem sub_congr {a b c d : Int32} (h1 : a = c) (h2 : b = d) : a - b = c - d := by rw [h1, h2]
theorem tri_nr {μ v ν : Mem} {N t D : Nat} (h : NR μ 2 ν 0 N t D) {n : Nat} (hC : NCP v n μ 2) : NR v n (upA ν 2 (cpsF (ν 2) 0 1)) (440 * 1) N t D := by
  refine NR.mv hC (fun k _ _ => by rw [upA_ne (by omega)]) (fun j hj => ?_) (Nat.le_refl _) h
  rw [upA_at]; unfold cpsF; rw [if_pos (by omega)]; exact congrArg (ν 2) (by omega)
theorem tri_row {ν : Mem} {N q j : Nat} (hN : N ≤ 6) (hp : ∀ i, i < q → PreGo (gosN (upA ν 2 (cpsF (ν 2) 0 1)) (440 * 1) N i) (440 * 1) N) (hj : j < 440) : gosN (upA ν 2 (cpsF (ν 2) 0 1)) (440 * 1) N q 2 j = ν 2 j := by
  rw [gosN_j hN (by omega) q hp, upA_at]; unfold cpsF; rw [if_neg (by omega)]
/-- what the trial leaves, and how it stands to the reference's -/
theorem tri_all {μ v ν : Mem} {D N t q : Nat} (hG : GR μ ν D) (hR : NR μ 2 ν 0 N t D) (hN : N ≤ 6) (hb : BLn μ 2) (h1 : t + q < 1000000) (h2 : D + q < 100000) (hC : NCP v 53 μ 2) (hF : ∀ x, (x < 53 ∨ 53 + 50 < x) → v x = μ x) :
    NR (pasF v 53 N q) 53 (gosN (upA ν 2 (cpsF (ν 2) 0 1)) (440 * 1) N q) (440 * 1) N (t + q) (D + q) ∧ NR (pasF v 53 N q) 2 (gosN (upA ν 2 (cpsF (ν 2) 0 1)) (440 * 1) N q) (440 * 0) N t D ∧ GR (pasF v 53 N q) (gosN (upA ν 2 (cpsF (ν 2) 0 1)) (440 * 1) N q) D := by
  have hT := tri_nr hR hC
  have hP := pass_rel hT q h1 h2
  have hp := (pass_pre hT h1 h2).2
  have eu : ∀ x, (x < 53 ∨ 103 < x) → pasF v 53 N q x = μ x := fun x hx => by rw [pas_x (by unfold stA; omega), hF x (by omega)]
  have ev : ∀ x, x < 4 → x ≠ 2 → gosN (upA ν 2 (cpsF (ν 2) 0 1)) (440 * 1) N q x = ν x := fun x hx h2 => by rw [gosN_x (by omega) h2, upA_ne h2]
  refine ⟨hP, ?_, hG.tri eu ev (fun j hj => tri_row hN hp hj) ((hb.cp hC).pas hN hP)⟩
  refine NR.mv (NCP.eq (fun x h1 h2 => eu x (by omega))) (fun k _ _ => by rw [ev 0 (by omega) (by omega)]) (fun j hj => ?_) (Nat.le_refl _) hR
  rw [show 440 * 0 + j = j by omega]; exact tri_row hN hp hj
theorem api_ahead {μ ν : Mem} {D : Nat} (k w : Int32) (hG : GR μ ν D) (hD : D + 100 < 100000) : API mX6_ahead mX7_ahead [.int k, .int w] μ ν D := by
  obtain ⟨N, t, hNR, ht, hP, hT, hB⟩ := id hG
  obtain ⟨⟨c0, c0', hN2, hN6, ⟨cl, cl1, cl2, cl3⟩, ⟨cm, cm1, cm2, cm3⟩, c3, ⟨cr, cr1, cr2, cr3⟩⟩, ⟨z, z1, z2, z3⟩, h6, h6', h7, hTK, ⟨hm, hH, hsym⟩, hR⟩ := id hNR.1
  simp only [Nat.zero_add] at z2 h6' h7 hH hR
  by_cases h : (¬ k < 1 ∧ ¬ 99 < k) ∧ ¬ w < 0 ∧ ¬ 5 < w
  · obtain ⟨h, hw⟩ := h
    have hk0 : ¬ k < 0 := fun q => h.1 (Int32.lt_trans q (by decide))
    obtain ⟨q, hq, rfl⟩ := in_of (K := 99) (n := 99) rfl ⟨hk0, h.2⟩
    have hq1 : 1 ≤ q := Nat.le_of_not_lt fun r => h.1 (nI_lt (b := 1) r (by omega))
    obtain ⟨j, hj, rfl⟩ := in_of (K := 5) (n := 5) rfl hw
    have hp2 := (pass_pre (q := q) (tri_nr hNR.1 (NCP.rf μ 2)) (by omega) (by omega)).2
    have hp1 : ∀ v, NCP v 53 μ 2 → (∀ x, (x < 53 ∨ 53 + 50 < x) → v x = μ x) → ∀ j, j < q → ∀ k, k < N → PreL (lsM (sltM (pasF v 53 N j) 53 N) 53 k) 53 k := fun v hC _ => (pass_pre (tri_nr hNR.1 hC) (by omega) (by omega)).1
    rcases (show j = 0 ∨ j = 1 ∨ j = 2 ∨ j = 3 ∨ j = 4 ∨ j = 5 by omega) with rfl | rfl | rfl | rfl | rfl | rfl
    · refine ⟨_, _, c_X6_ahead0 hq1 hq c0 hN6 (by omega) hB.1 hp1, c_X7_ahead0 hq1 hq c0' hN6 hp2, ?_⟩
      rintro r u s v ⟨v0, hC, hF, rfl, rfl⟩ ⟨rfl, rfl⟩
      obtain ⟨P, B, hGR⟩ := tri_all (q := q) hG hNR.1 hN6 hB.1 (by omega) (by omega) hC hF
      exact ⟨sub_congr (sumF_congr N (fun i hi => (P.2.2.2.2.2.2.2 i hi).1.1.2.2.2.2.1)) (sumF_congr N (fun i hi => (B.2.2.2.2.2.2.2 i hi).1.1.2.2.2.2.1)), hGR⟩
    · refine ⟨_, _, c_X6_ahead1 hq1 hq c0 hN6 (by omega) hB.1 hp1, c_X7_ahead1 hq1 hq c0' hN6 hp2, ?_⟩
      rintro r u s v ⟨v0, hC, hF, rfl, rfl⟩ ⟨rfl, rfl⟩
      obtain ⟨P, B, hGR⟩ := tri_all (q := q) hG hNR.1 hN6 hB.1 (by omega) (by omega) hC hF
      exact ⟨sub_congr (sumF_congr N (fun i hi => (P.2.2.2.2.2.2.2 i hi).1.1.2.2.2.2.2.1)) (sumF_congr N (fun i hi => (B.2.2.2.2.2.2.2 i hi).1.1.2.2.2.2.2.1)), hGR⟩
    · refine ⟨_, _, c_X6_ahead2 hq1 hq c0 hN6 (by omega) hB.1 hp1, c_X7_ahead2 hq1 hq c0' hN6 hp2, ?_⟩
      rintro r u s v ⟨v0, hC, hF, rfl, rfl⟩ ⟨rfl, rfl⟩
      obtain ⟨P, B, hGR⟩ := tri_all (q := q) hG hNR.1 hN6 hB.1 (by omega) (by omega) hC hF
      exact ⟨sub_congr (sumF_congr N (fun i hi => (P.2.2.2.2.2.2.2 i hi).1.1.2.2.2.1)) (sumF_congr N (fun i hi => (B.2.2.2.2.2.2.2 i hi).1.1.2.2.2.1)), hGR⟩
    · refine ⟨_, _, c_X6_ahead3 hq1 hq c0 hN6 (by omega) hB.1 hp1, c_X7_ahead3 hq1 hq c0' hN6 hp2, ?_⟩
      rintro r u s v ⟨v0, hC, hF, rfl, rfl⟩ ⟨rfl, rfl⟩
      obtain ⟨P, B, hGR⟩ := tri_all (q := q) hG hNR.1 hN6 hB.1 (by omega) (by omega) hC hF
      exact ⟨mxG_congr N (fun i hi => sub_congr (P.2.2.2.2.2.2.2 i hi).1.1.2.2.2.2.1 (B.2.2.2.2.2.2.2 i hi).1.1.2.2.2.2.1), hGR⟩
    · refine ⟨_, _, c_X6_ahead4 hq1 hq c0 hN6 (by omega) hB.1 hp1, c_X7_ahead4 hq1 hq c0' hN6 hp2, ?_⟩
      rintro r u s v ⟨v0, hC, hF, rfl, rfl⟩ ⟨rfl, rfl⟩
      obtain ⟨P, B, hGR⟩ := tri_all (q := q) hG hNR.1 hN6 hB.1 (by omega) (by omega) hC hF
      exact ⟨mnG_congr N (fun i hi => sub_congr (P.2.2.2.2.2.2.2 i hi).1.1.2.2.2.2.1 (B.2.2.2.2.2.2.2 i hi).1.1.2.2.2.2.1), hGR⟩
    · refine ⟨_, _, c_X6_ahead5 hq1 hq c0 hN6 (by omega) hB.1 hp1, c_X7_ahead5 hq1 hq c0' hN6 hp2, ?_⟩
      rintro r u s v ⟨v0, hC, hF, rfl, rfl⟩ ⟨rfl, rfl⟩
      obtain ⟨P, B, hGR⟩ := tri_all (q := q) hG hNR.1 hN6 hB.1 (by omega) (by omega) hC hF
      exact ⟨sumF_congr N (fun i hi => (P.2.2.2.2.2.2.2 i hi).1.1.2.2.2.2.2.2.2.1), hGR⟩
  · exact API.same hG (c_X6_aheadX h) (c_X7_aheadX h)

def snF (c : Nat → Prop) : Nat → Nat → Int32 → Nat → Prop
  | 0, j, r, k => r = -4 ∧ k = j
  | d + 1, j, r, k => (c (j + 1) ∧ r = nI (j + 1) ∧ k = j + 1) ∨ (¬ c (j + 1) ∧ snF c d (j + 1) r k)
theorem snF_eq {c c' : Nat → Prop} {r r' : Int32} {k k' : Nat} : ∀ d j, (∀ i, i ≤ j + d → (c i ↔ c' i)) → snF c d j r k → snF c' d j r' k' → r = r' ∧ k = k'
  | 0, j, _, h1, h2 => ⟨h1.1.trans h2.1.symm, h1.2.trans h2.2.symm⟩
  | d + 1, j, hc, h1, h2 => by
    have e := hc (j + 1) (by omega)
    rcases h1 with h1 | h1 <;> rcases h2 with h2 | h2
    · exact ⟨h1.2.1.trans h2.2.1.symm, h1.2.2.trans h2.2.2.symm⟩
    · exact absurd (e.mp h1.1) h2.1
    · exact absurd (e.mpr h2.1) h1.1
    · exact snF_eq d (j + 1) (fun i hi => hc i (by omega)) h1.2 h2.2
theorem snF_le {c : Nat → Prop} {r : Int32} {k : Nat} : ∀ d j, snF c d j r k → k ≤ j + d
  | 0, j, h => by have := h.2; omega
  | d + 1, j, h => by
    rcases h with h | h
    · omega
    · have := snF_le d (j + 1) h.2; omega
theorem pasF_s {μ : Mem} {n N q : Nat} : pasF (pasF μ n N q) n N 1 = pasF μ n N (q + 1) := rfl
theorem pre1 {v : Mem} {N n : Nat} (h : ∀ k, k < N → PreL (lsM (sltM v n N) n k) n k) : ∀ j, j < 1 → ∀ k, k < N → PreL (lsM (sltM (pasF v n N j) n N) n k) n k := by
  intro j hj
  obtain rfl : j = 0 := by omega
  exact h
set_option maxHeartbeats 4000000 in
set_option maxRecDepth 100000 in
theorem l_X6_soon {v : Mem} {N : Nat} {a : Int32} (hN : N ≤ 6) (h0 : v 53 0 = nI N) (hp : ∀ j, j < 99 → ∀ k, k < N → PreL (lsM (sltM (pasF v 53 N j) 53 N) 53 k) 53 k) {Q : Int32 → Mem → Prop} : ∀ d j : Nat, j + d = 99 → (∀ r k, snF (fun i => ¬ sumF (fun x => pasF v 53 N i (stA 53 x) 6) N ≤ a) d j r k → Q r (pasF v 53 N k)) → AW shC mX6_soon 22 [some (.ref 0), some (.int a), some (.int (nI (j + 1)))] [] (pasF v 53 N j) Q := by
  have z0 : shC[0]? = some (6, 8, [some 1, none, some 2, some 53, some 104, some 106, none, none]) := rfl
  have hn := net_2
  obtain ⟨hn0, hn1, hn2, hnS⟩ := id hn
  have hm := net_53
  obtain ⟨hm0, hm1, hm2, hmS⟩ := id hm
  intro d
  induction d with
  | zero =>
    intro j hd hQ
    have e : j = 99 := by omega
    subst e
    refine a_iload_n (pc := 22) dX6_soon_22 rfl rfl ?_
    refine a_bipush (pc := 23) (v := 99) dX6_soon_23 (by decide) ?_
    refine a_icmp_gt (pc := 25) (tgt := 56) dX6_soon_25 (by decide) (fun c_25 => ?_) (fun c_25 => ?_)
    · refine a_bipush (pc := 56) (v := -4) dX6_soon_56 (by decide) ?_
      refine a_iret (pc := 58) rfl dX6_soon_58 ?_
      exact hQ (-4) 99 ⟨rfl, rfl⟩
    · exact absurd (by decide) c_25
  | succ d ih =>
    intro j hd hQ
    refine a_iload_n (pc := 22) dX6_soon_22 rfl rfl ?_
    refine a_bipush (pc := 23) (v := 99) dX6_soon_23 (by decide) ?_
    refine a_icmp_gt (pc := 25) (tgt := 56) dX6_soon_25 (by decide) (fun c_25 => ?_) (fun c_25 => ?_)
    · exact absurd c_25 (nI_nlt (a := 99) (by omega) (by omega))
    · refine a_aload_n (pc := 28) dX6_soon_28 rfl rfl ?_
      refine a_getr (pc := 29) fl_X6_20 (by assumption) (by decide) (by rfl) dX6_soon_29 ?_
      refine a_iconst (pc := 32) (v := 1) dX6_soon_32 (by decide) ?_
      refine a_callV1 (pc := 33) ck_X6_116 ⟨(Nat.le_of_ble_eq_true rfl), (Nat.le_of_ble_eq_true rfl)⟩ (by assumption) (by decide) (Nat.le_of_ble_eq_true rfl) dX6_soon_33 rfl (c_X2_passSlots (q := 1) hm (by rw [pasF_0]; exact h0) hN (by omega) (pre1 (hp j (by omega)))) ?_
      rintro u rfl
      rw [pasF_s]
      refine a_aload_n (pc := 36) dX6_soon_36 rfl rfl ?_
      refine a_getr (pc := 37) fl_X6_20 (by assumption) (by decide) (by rfl) dX6_soon_37 ?_
      refine a_iconst (pc := 40) (v := 1) dX6_soon_40 (by decide) ?_
      refine a_callI1 (pc := 41) ck_X6_113 ⟨(Nat.le_of_ble_eq_true rfl), (Nat.le_of_ble_eq_true rfl)⟩ (by assumption) (by decide) (Nat.le_of_ble_eq_true rfl) dX6_soon_41 rfl (c_X2_totalOf1 hm (by rw [pasF_0]; exact h0) hN) ?_
      rintro r u ⟨rfl, rfl⟩
      refine a_iload_n (pc := 44) dX6_soon_44 rfl rfl ?_
      refine a_icmp_le (pc := 45) (tgt := 50) dX6_soon_45 (by decide) (fun c_45 => ?_) (fun c_45 => ?_)
      · refine a_iincN (pc := 50) (m := 1) (al' := [some (.ref _), some (.int _), some (.int _)]) dX6_soon_50 rfl (by decide) rfl rfl ?_
        refine a_goto (pc := 53) (tgt := 22) dX6_soon_53 (by decide) ?_
        exact ih (j + 1) (by omega) (fun r k h => hQ r k (Or.inr ⟨not_not_intro c_45, h⟩))
      · refine a_iload_n (pc := 48) dX6_soon_48 rfl rfl ?_
        refine a_iret (pc := 49) rfl dX6_soon_49 ?_
        exact hQ _ (j + 1) (Or.inl ⟨c_45, rfl, rfl⟩)

set_option maxHeartbeats 4000000 in
set_option maxRecDepth 100000 in
theorem c_X6_soon {μ : Mem} {N : Nat} (h0 : μ 2 0 = nI N) (hN : N ≤ 6) (hb : BLn μ 2) (hp : ∀ v, NCP v 53 μ 2 → (∀ x, (x < 53 ∨ 53 + 50 < x) → v x = μ x) → ∀ j, j < 99 → ∀ k, k < N → PreL (lsM (sltM (pasF v 53 N j) 53 N) 53 k) 53 k) : Con shC mX6_soon [.ref 0] μ (fun r u => ∃ v k, NCP v 53 μ 2 ∧ (∀ x, (x < 53 ∨ 53 + 50 < x) → v x = μ x) ∧ u = pasF v 53 N k ∧ snF (fun i => ¬ sumF (fun x => pasF v 53 N i (stA 53 x) 6) N ≤ sumF (fun i => μ (stA 2 i) 6) N) 99 0 r k) := by
  have z0 : shC[0]? = some (6, 8, [some 1, none, some 2, some 53, some 104, some 106, none, none]) := rfl
  have hn := net_2
  obtain ⟨hn0, hn1, hn2, hnS⟩ := id hn
  have hm := net_53
  obtain ⟨hm0, hm1, hm2, hmS⟩ := id hm
  refine Con.ofAW (al0 := [some (.ref 0), none, none]) (by decide) rfl (Nat.le_of_ble_eq_true rfl) rfl ?_
  refine a_aload_n (pc := 0) dX6_soon_0 rfl rfl ?_
  refine a_getr (pc := 1) fl_X6_16 (by assumption) (by decide) (by rfl) dX6_soon_1 ?_
  refine a_iconst (pc := 4) (v := 1) dX6_soon_4 (by decide) ?_
  refine a_callI1 (pc := 5) ck_X6_113 ⟨(Nat.le_of_ble_eq_true rfl), (Nat.le_of_ble_eq_true rfl)⟩ (by assumption) (by decide) (Nat.le_of_ble_eq_true rfl) dX6_soon_5 rfl (c_X2_totalOf1 hn h0 hN) ?_
  rintro r u ⟨rfl, rfl⟩
  refine a_istore_n (pc := 8) (al' := [some (.ref _), some (.int _), none]) dX6_soon_8 rfl (by decide) rfl rfl ?_
  refine a_aload_n (pc := 9) dX6_soon_9 rfl rfl ?_
  refine a_getr (pc := 10) fl_X6_20 (by assumption) (by decide) (by rfl) dX6_soon_10 ?_
  refine a_aload_n (pc := 13) dX6_soon_13 rfl rfl ?_
  refine a_getr (pc := 14) fl_X6_16 (by assumption) (by decide) (by rfl) dX6_soon_14 ?_
  refine a_callV1 (pc := 17) ck_X6_125 ⟨(Nat.le_of_ble_eq_true rfl), (Nat.le_of_ble_eq_true rfl)⟩ (by assumption) (by decide) (Nat.le_of_ble_eq_true rfl) dX6_soon_17 rfl (c_X2_copyFrom hm hn (Or.inl (by omega)) hb) ?_
  rintro v ⟨hC, hF⟩
  refine a_iconst (pc := 20) (v := 1) dX6_soon_20 (by decide) ?_
  refine a_istore_n (pc := 21) (al' := [some (.ref _), some (.int _), some (.int _)]) dX6_soon_21 rfl (by decide) rfl rfl ?_
  exact l_X6_soon hN ((hC.1 0 (by omega)).trans h0) (hp v hC hF) 99 0 (by omega) (fun r k h => ⟨v, k, hC, hF, rfl, h⟩)

set_option maxHeartbeats 4000000 in
set_option maxRecDepth 100000 in
theorem l_X7_soon {ν : Mem} {N : Nat} (hN : N ≤ 6) (h0 : ν 0 2 = nI N) (hp : ∀ j, j < 99 → PreGo (gosN ν (440 * 1) N j) (440 * 1) N) {Q : Int32 → Mem → Prop} : ∀ d j : Nat, j + d = 99 → (∀ r k, snF (fun i => ¬ sumF (fun x => gosN ν (440 * 1) N i 2 (440 * 1 + 70 * x + 5)) N ≤ sumF (fun x => gosN ν (440 * 1) N i 2 (440 * 0 + 70 * x + 5)) N) d j r k → Q r (gosN ν (440 * 1) N k)) → AW shM mX7_soon 8 [some (.ref 0), some (.int (nI (j + 1)))] [] (gosN ν (440 * 1) N j) Q := by
  have m0 : shM[0]? = some (7, 18, [none, some 1, none, none, none, none, none, some 2, some 3, none, none, some 4, none, none, some 5, some 6, some 7, some 8]) := rfl
  have m1 : shM[1]? = some (100, 200, []) := rfl
  have m2 : shM[2]? = some (100, 1320, []) := rfl
  have m3 : shM[3]? = some (100, 1760, []) := rfl
  have m4 : shM[4]? = some (100, 4, []) := rfl
  have m5 : shM[5]? = some (100, 6, []) := rfl
  have m6 : shM[6]? = some (100, 6, []) := rfl
  have m7 : shM[7]? = some (100, 6, []) := rfl
  have m8 : shM[8]? = some (100, 6, []) := rfl
  intro d
  induction d with
  | zero =>
    intro j hd hQ
    have e : j = 99 := by omega
    subst e
    refine a_iload_n (pc := 8) dX7_soon_8 rfl rfl ?_
    refine a_bipush (pc := 9) (v := 100) dX7_soon_9 (by decide) ?_
    refine a_icmp_ge (pc := 11) (tgt := 42) dX7_soon_11 (by decide) (fun c_11 => ?_) (fun c_11 => ?_)
    · refine a_bipush (pc := 42) (v := -4) dX7_soon_42 (by decide) ?_
      refine a_iret (pc := 44) rfl dX7_soon_44 ?_
      exact hQ (-4) 99 ⟨rfl, rfl⟩
    · exact absurd (by decide) c_11
  | succ d ih =>
    intro j hd hQ
    refine a_iload_n (pc := 8) dX7_soon_8 rfl rfl ?_
    refine a_bipush (pc := 9) (v := 100) dX7_soon_9 (by decide) ?_
    refine a_icmp_ge (pc := 11) (tgt := 42) dX7_soon_11 (by decide) (fun c_11 => ?_) (fun c_11 => ?_)
    · exact absurd c_11 (nI_ge (b := 100) (by omega) (by omega))
    · refine a_aload_n (pc := 14) dX7_soon_14 rfl rfl ?_
      refine a_iconst (pc := 15) (v := 1) dX7_soon_15 (by decide) ?_
      refine a_callV1 (pc := 16) ck_X7_196 ⟨(Nat.le_of_ble_eq_true rfl), (Nat.le_of_ble_eq_true rfl)⟩ (by assumption) (by decide) (Nat.le_of_ble_eq_true rfl) dX7_soon_16 rfl (c_X7_goes (r := 1) (by omega) (by rw [gosN_x (by omega) (by omega)]; exact h0) hN (hp j (by omega))) ?_
      rintro u rfl
      rw [show gosF (gosN ν (440 * 1) N j) (440 * 1) N = gosN ν (440 * 1) N (j + 1) from rfl]
      refine a_aload_n (pc := 19) dX7_soon_19 rfl rfl ?_
      refine a_iconst (pc := 20) (v := 1) dX7_soon_20 (by decide) ?_
      refine a_iconst (pc := 21) (v := 5) dX7_soon_21 (by decide) ?_
      refine a_callI2 (pc := 22) ck_X7_193 ⟨(Nat.le_of_ble_eq_true rfl), (Nat.le_of_ble_eq_true rfl)⟩ (by assumption) (by decide) (Nat.le_of_ble_eq_true rfl) dX7_soon_22 rfl (c_X7_all (r := 1) (k := 5) (by omega) (by omega) (by rw [gosN_x (by omega) (by omega)]; exact h0) hN) ?_
      rintro r u ⟨rfl, rfl⟩
      refine a_aload_n (pc := 25) dX7_soon_25 rfl rfl ?_
      refine a_iconst (pc := 26) (v := 0) dX7_soon_26 (by decide) ?_
      refine a_iconst (pc := 27) (v := 5) dX7_soon_27 (by decide) ?_
      refine a_callI2 (pc := 28) ck_X7_193 ⟨(Nat.le_of_ble_eq_true rfl), (Nat.le_of_ble_eq_true rfl)⟩ (by assumption) (by decide) (Nat.le_of_ble_eq_true rfl) dX7_soon_28 rfl (c_X7_all (r := 0) (k := 5) (by omega) (by omega) (by rw [gosN_x (by omega) (by omega)]; exact h0) hN) ?_
      rintro r u ⟨rfl, rfl⟩
      refine a_icmp_le (pc := 31) (tgt := 36) dX7_soon_31 (by decide) (fun c_31 => ?_) (fun c_31 => ?_)
      · refine a_iincN (pc := 36) (m := 1) (al' := [some (.ref _), some (.int _)]) dX7_soon_36 rfl (by decide) rfl rfl ?_
        refine a_goto (pc := 39) (tgt := 8) dX7_soon_39 (by decide) ?_
        exact ih (j + 1) (by omega) (fun r k h => hQ r k (Or.inr ⟨not_not_intro c_31, h⟩))
      · refine a_iload_n (pc := 34) dX7_soon_34 rfl rfl ?_
        refine a_iret (pc := 35) rfl dX7_soon_35 ?_
        exact hQ _ (j + 1) (Or.inl ⟨c_31, rfl, rfl⟩)

set_option maxHeartbeats 4000000 in
set_option maxRecDepth 100000 in
theorem c_X7_soon {ν : Mem} {N : Nat} (h0 : ν 0 2 = nI N) (hN : N ≤ 6) (hp : ∀ j, j < 99 → PreGo (gosN (upA ν 2 (cpsF (ν 2) 0 1)) (440 * 1) N j) (440 * 1) N) : Con shM mX7_soon [.ref 0] ν (fun r u => ∃ k, u = gosN (upA ν 2 (cpsF (ν 2) 0 1)) (440 * 1) N k ∧ snF (fun i => ¬ sumF (fun x => gosN (upA ν 2 (cpsF (ν 2) 0 1)) (440 * 1) N i 2 (440 * 1 + 70 * x + 5)) N ≤ sumF (fun x => gosN (upA ν 2 (cpsF (ν 2) 0 1)) (440 * 1) N i 2 (440 * 0 + 70 * x + 5)) N) 99 0 r k) := by
  have m0 : shM[0]? = some (7, 18, [none, some 1, none, none, none, none, none, some 2, some 3, none, none, some 4, none, none, some 5, some 6, some 7, some 8]) := rfl
  have m1 : shM[1]? = some (100, 200, []) := rfl
  have m2 : shM[2]? = some (100, 1320, []) := rfl
  have m3 : shM[3]? = some (100, 1760, []) := rfl
  have m4 : shM[4]? = some (100, 4, []) := rfl
  have m5 : shM[5]? = some (100, 6, []) := rfl
  have m6 : shM[6]? = some (100, 6, []) := rfl
  have m7 : shM[7]? = some (100, 6, []) := rfl
  have m8 : shM[8]? = some (100, 6, []) := rfl
  refine Con.ofAW (al0 := [some (.ref 0), none]) (by decide) rfl (Nat.le_of_ble_eq_true rfl) rfl ?_
  refine a_aload_n (pc := 0) dX7_soon_0 rfl rfl ?_
  refine a_iconst (pc := 1) (v := 0) dX7_soon_1 (by decide) ?_
  refine a_iconst (pc := 2) (v := 1) dX7_soon_2 (by decide) ?_
  refine a_callV2 (pc := 3) ck_X7_71 ⟨(Nat.le_of_ble_eq_true rfl), (Nat.le_of_ble_eq_true rfl)⟩ (by assumption) (by decide) (Nat.le_of_ble_eq_true rfl) dX7_soon_3 rfl (c_X7_copies (a := 0) (b := 1) (by omega) (by omega) (by omega)) ?_
  rintro u rfl
  refine a_iconst (pc := 6) (v := 1) dX7_soon_6 (by decide) ?_
  refine a_istore_n (pc := 7) (al' := [some (.ref _), some (.int _)]) dX7_soon_7 rfl (by decide) rfl rfl ?_
  exact l_X7_soon hN (by rw [upA_ne (by omega)]; exact h0) hp 99 0 (by omega) (fun r k h => ⟨k, rfl, h⟩)

theorem api_soon {μ ν : Mem} {D : Nat} (hG : GR μ ν D) (hD : D + 100 < 100000) : API mX6_soon mX7_soon [] μ ν D := by
  obtain ⟨N, t, hNR, ht, hP, hT, hB⟩ := id hG
  obtain ⟨⟨c0, c0', hN2, hN6, ⟨cl, cl1, cl2, cl3⟩, ⟨cm, cm1, cm2, cm3⟩, c3, ⟨cr, cr1, cr2, cr3⟩⟩, ⟨z, z1, z2, z3⟩, h6, h6', h7, hTK, ⟨hm, hH, hsym⟩, hR⟩ := id hNR.1
  simp only [Nat.zero_add] at z2 h6' h7 hH hR
  refine ⟨_, _, c_X6_soon c0 hN6 hB.1 (fun v hC _ => (pass_pre (tri_nr hNR.1 hC) (by omega) (by omega)).1), c_X7_soon c0' hN6 (pass_pre (q := 99) (tri_nr hNR.1 (NCP.rf μ 2)) (by omega) (by omega)).2, ?_⟩
  rintro r u s v ⟨v0, k, hC, hF, rfl, hs⟩ ⟨k', rfl, hs'⟩
  have hE := fun hc => snF_eq 99 0 hc hs hs'
  obtain ⟨e1, e2⟩ := hE (by
    intro i hi
    obtain ⟨P, B, -⟩ := tri_all (q := i) hG hNR.1 hN6 hB.1 (by omega) (by omega) hC hF
    have s1 : sumF (fun x => pasF v0 53 N i (stA 53 x) 6) N = sumF (fun x => gosN (upA ν 2 (cpsF (ν 2) 0 1)) (440 * 1) N i 2 (440 * 1 + 70 * x + 5)) N := sumF_congr N (fun i hi => (P.2.2.2.2.2.2.2 i hi).1.1.2.2.2.2.1)
    have s2 : sumF (fun x => μ (stA 2 x) 6) N = sumF (fun x => gosN (upA ν 2 (cpsF (ν 2) 0 1)) (440 * 1) N i 2 (440 * 0 + 70 * x + 5)) N := sumF_congr N (fun x hx => by
      refine Eq.trans ?_ (B.2.2.2.2.2.2.2 x hx).1.1.2.2.2.2.1
      rw [pas_x (Or.inl (by unfold stA; omega)), hF _ (Or.inl (by unfold stA; omega))])
    rw [s1, s2])
  subst e2
  have hk := snF_le 99 0 hs
  exact ⟨e1, (tri_all (q := k) hG hNR.1 hN6 hB.1 (by omega) (by omega) hC hF).2.2⟩

