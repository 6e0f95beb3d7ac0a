/-! ahead -/
def mxG (g : Nat → Int32) : Nat → Int32
  | 0 => 0
  | k + 1 => if k = 0 ∨ mxG g k < g k then g k else mxG g k
def mnG (g : Nat → Int32) : Nat → Int32
  | 0 => 0
  | k + 1 => if k = 0 ∨ g k < mnG g k then g k else mnG g k
theorem mxG_congr {g h : Nat → Int32} : ∀ k, (∀ i, i < k → g i = h i) → mxG g k = mxG h k
  | 0, _ => rfl
  | k + 1, e => by unfold mxG; rw [mxG_congr k (fun i hi => e i (by omega)), e k (by omega)]
theorem mnG_congr {g h : Nat → Int32} : ∀ k, (∀ i, i < k → g i = h i) → mnG g k = mnG h k
  | 0, _ => rfl
  | k + 1, e => by unfold mnG; rw [mnG_congr k (fun i hi => e i (by omega)), e k (by omega)]
theorem mxG_s {g : Nat → Int32} {k : Nat} (h : 1 ≤ k) : mxG g (k + 1) = if mxG g k < g k then g k else mxG g k := by
  conv => lhs; unfold mxG
  by_cases q : mxG g k < g k
  · rw [if_pos (Or.inr q), if_pos q]
  · rw [if_neg (fun r => r.elim (by omega) q), if_neg q]
theorem mnG_s {g : Nat → Int32} {k : Nat} (h : 1 ≤ k) : mnG g (k + 1) = if g k < mnG g k then g k else mnG g k := by
  conv => lhs; unfold mnG
  by_cases q : g k < mnG g k
  · rw [if_pos (Or.inr q), if_pos q]
  · rw [if_neg (fun r => r.elim (by omega) q), if_neg q]
def stG (μ : Mem) (i : Nat) : Int32 := μ (stA 53 i) 6 - μ (stA 2 i) 6
set_option maxHeartbeats 4000000 in
set_option maxRecDepth 100000 in
theorem c_X6_sentInTrial {μ : Mem} {i : Nat} (hi : i < 6) : Con shC mX6_sentInTrial [.ref 0, .int (nI i)] μ (fun r u => r = stG μ i ∧ μ = u) := by
  have z0 : shC[0]? = some (6, 8, [some 1, none, some 2, some 53, some 104, some 106, none, none]) := rfl
  have hn := net_2
  obtain ⟨hn0, hn1, hn2, hnS⟩ := id hn
  have hm := net_53
  obtain ⟨hm0, hm1, hm2, hmS⟩ := id hm
  have ws := hnS i hi
  have w0 := ws.1
  have vs := hmS i hi
  have v0 := vs.1
  refine Con.ofAW (al0 := [some (.ref 0), some (.int (nI i))]) (by decide) rfl (Nat.le_of_ble_eq_true rfl) rfl ?_
  refine a_aload_n (pc := 0) dX6_sentInTrial_0 rfl rfl ?_
  refine a_getr (pc := 1) fl_X6_20 (by assumption) (by decide) (by rfl) dX6_sentInTrial_1 ?_
  refine a_getr (pc := 4) fl_X6_70 (by assumption) (by decide) (by rfl) dX6_sentInTrial_4 ?_
  refine a_iload_n (pc := 7) dX6_sentInTrial_7 rfl rfl ?_
  refine a_aald2 (pc := 8)  (by assumption) rfl (by omega) (by decide) (all_at (by omega)) dX6_sentInTrial_8 ?_
  refine a_geti (pc := 9) fl_X6_147 (by assumption) (by decide) (by rfl) dX6_sentInTrial_9 ?_
  refine a_aload_n (pc := 12) dX6_sentInTrial_12 rfl rfl ?_
  refine a_getr (pc := 13) fl_X6_16 (by assumption) (by decide) (by rfl) dX6_sentInTrial_13 ?_
  refine a_getr (pc := 16) fl_X6_70 (by assumption) (by decide) (by rfl) dX6_sentInTrial_16 ?_
  refine a_iload_n (pc := 19) dX6_sentInTrial_19 rfl rfl ?_
  refine a_aald2 (pc := 20)  (by assumption) rfl (by omega) (by decide) (all_at (by omega)) dX6_sentInTrial_20 ?_
  refine a_geti (pc := 21) fl_X6_147 (by assumption) (by decide) (by rfl) dX6_sentInTrial_21 ?_
  refine a_isub (pc := 24) dX6_sentInTrial_24 ?_
  refine a_iret (pc := 25) rfl dX6_sentInTrial_25 ?_
  exact ⟨rfl, rfl⟩

set_option maxHeartbeats 4000000 in
set_option maxRecDepth 100000 in
theorem l_X6_mostSentInTrial {μ : Mem} {N : Nat} (h0 : μ 2 0 = nI N) (hN : N ≤ 6) {Q : Int32 → Mem → Prop} (hQ : Q (mxG (stG μ) N) μ) : ∀ d i : Nat, i + d = N → 1 ≤ i → AW shC mX6_mostSentInTrial 8 [some (.ref 0), some (.int (mxG (stG μ) i)), some (.int (nI i))] [] μ Q := by
  have z0 : shC[0]? = some (6, 8, [some 1, none, some 2, some 53, some 104, some 106, none, none]) := rfl
  have hn := net_2
  obtain ⟨hn0, hn1, hn2, hnS⟩ := id hn
  have hm := net_53
  obtain ⟨hm0, hm1, hm2, hmS⟩ := id hm
  intro d
  induction d with
  | zero =>
    intro i hd h1
    refine a_iload_n (pc := 8) dX6_mostSentInTrial_8 rfl rfl ?_
    refine a_aload_n (pc := 9) dX6_mostSentInTrial_9 rfl rfl ?_
    refine a_getr (pc := 10) fl_X6_16 (by assumption) (by decide) (by rfl) dX6_mostSentInTrial_10 ?_
    refine a_geti (pc := 13) fl_X6_60 (by assumption) (by decide) (by rfl) dX6_mostSentInTrial_13 ?_
    refine a_top (y := nI N) h0 ?_
    refine a_icmp_ge (pc := 16) (tgt := 35) dX6_mostSentInTrial_16 (by decide) (fun c_16 => ?_) (fun c_16 => ?_)
    · have e : i = N := by omega
      subst e
      refine a_iload_n (pc := 35) dX6_mostSentInTrial_35 rfl rfl ?_
      exact a_iret (pc := 36) rfl dX6_mostSentInTrial_36 hQ
    · exact absurd (lt_of_not_ge' (a := i) (b := N) (by omega) (by omega) c_16) (by omega)
  | succ d ih =>
    intro i hd h1
    refine a_iload_n (pc := 8) dX6_mostSentInTrial_8 rfl rfl ?_
    refine a_aload_n (pc := 9) dX6_mostSentInTrial_9 rfl rfl ?_
    refine a_getr (pc := 10) fl_X6_16 (by assumption) (by decide) (by rfl) dX6_mostSentInTrial_10 ?_
    refine a_geti (pc := 13) fl_X6_60 (by assumption) (by decide) (by rfl) dX6_mostSentInTrial_13 ?_
    refine a_top (y := nI N) h0 ?_
    refine a_icmp_ge (pc := 16) (tgt := 35) dX6_mostSentInTrial_16 (by decide) (fun c_16 => ?_) (fun c_16 => ?_)
    · exact absurd (le_of_ge' (a := i) (b := N) (by omega) (by omega) c_16) (by omega)
    · refine a_iload_n (pc := 19) dX6_mostSentInTrial_19 rfl rfl ?_
      refine a_aload_n (pc := 20) dX6_mostSentInTrial_20 rfl rfl ?_
      refine a_iload_n (pc := 21) dX6_mostSentInTrial_21 rfl rfl ?_
      refine a_callI1 (pc := 22) ck_X6_223 ⟨(Nat.le_of_ble_eq_true rfl), (Nat.le_of_ble_eq_true rfl)⟩ (by assumption) (by decide) (Nat.le_of_ble_eq_true rfl) dX6_mostSentInTrial_22 rfl (c_X6_sentInTrial (by omega)) ?_
      rintro r u ⟨rfl, rfl⟩
      refine a_mmax (pc := 25) nl_X6_226 nw_max1 nw_math nw_max3 (Nat.le_of_ble_eq_true rfl) (Nat.le_of_ble_eq_true rfl) dX6_mostSentInTrial_25 ?_
      refine a_top (y := mxG (stG μ) (i + 1)) (mxG_s h1).symm ?_
      refine a_istore_n (pc := 28) (al' := [some (.ref _), some (.int _), some (.int _)]) dX6_mostSentInTrial_28 rfl (by decide) rfl rfl ?_
      refine a_iincN (pc := 29) (m := 1) (al' := [some (.ref _), some (.int _), some (.int _)]) dX6_mostSentInTrial_29 rfl (by decide) rfl rfl ?_
      refine a_goto (pc := 32) (tgt := 8) dX6_mostSentInTrial_32 (by decide) ?_
      exact ih (i + 1) (by omega) (by omega)
set_option maxHeartbeats 4000000 in
set_option maxRecDepth 100000 in
theorem c_X6_mostSentInTrial {μ : Mem} {N : Nat} (h0 : μ 2 0 = nI N) (hN : N ≤ 6) (hN1 : 1 ≤ N) : Con shC mX6_mostSentInTrial [.ref 0] μ (fun r u => r = mxG (stG μ) N ∧ μ = u) := by
  have z0 : shC[0]? = some (6, 8, [some 1, none, some 2, some 53, some 104, some 106, none, none]) := rfl
  have hn := net_2
  obtain ⟨hn0, hn1, hn2, hnS⟩ := id hn
  have hm := net_53
  obtain ⟨hm0, hm1, hm2, hmS⟩ := id hm
  refine Con.ofAW (al0 := [some (.ref 0), none, none]) (by decide) rfl (Nat.le_of_ble_eq_true rfl) rfl ?_
  refine a_aload_n (pc := 0) dX6_mostSentInTrial_0 rfl rfl ?_
  refine a_iconst (pc := 1) (v := 0) dX6_mostSentInTrial_1 (by decide) ?_
  refine a_callI1 (pc := 2) ck_X6_223 ⟨(Nat.le_of_ble_eq_true rfl), (Nat.le_of_ble_eq_true rfl)⟩ (by assumption) (by decide) (Nat.le_of_ble_eq_true rfl) dX6_mostSentInTrial_2 rfl (c_X6_sentInTrial (i := 0) (by omega)) ?_
  rintro r u ⟨rfl, rfl⟩
  refine a_top (y := mxG (stG μ) 1) rfl ?_
  refine a_istore_n (pc := 5) (al' := [some (.ref _), some (.int _), none]) dX6_mostSentInTrial_5 rfl (by decide) rfl rfl ?_
  refine a_iconst (pc := 6) (v := 1) dX6_mostSentInTrial_6 (by decide) ?_
  refine a_istore_n (pc := 7) (al' := [some (.ref _), some (.int _), some (.int _)]) dX6_mostSentInTrial_7 rfl (by decide) rfl rfl ?_
  exact l_X6_mostSentInTrial h0 hN ⟨rfl, rfl⟩ (N - 1) 1 (by omega) (by omega)

set_option maxHeartbeats 4000000 in
set_option maxRecDepth 100000 in
theorem l_X6_leastSentInTrial {μ : Mem} {N : Nat} (h0 : μ 2 0 = nI N) (hN : N ≤ 6) {Q : Int32 → Mem → Prop} (hQ : Q (mnG (stG μ) N) μ) : ∀ d i : Nat, i + d = N → 1 ≤ i → AW shC mX6_leastSentInTrial 8 [some (.ref 0), some (.int (mnG (stG μ) i)), some (.int (nI i))] [] μ Q := by
  have z0 : shC[0]? = some (6, 8, [some 1, none, some 2, some 53, some 104, some 106, none, none]) := rfl
  have hn := net_2
  obtain ⟨hn0, hn1, hn2, hnS⟩ := id hn
  have hm := net_53
  obtain ⟨hm0, hm1, hm2, hmS⟩ := id hm
  intro d
  induction d with
  | zero =>
    intro i hd h1
    refine a_iload_n (pc := 8) dX6_leastSentInTrial_8 rfl rfl ?_
    refine a_aload_n (pc := 9) dX6_leastSentInTrial_9 rfl rfl ?_
    refine a_getr (pc := 10) fl_X6_16 (by assumption) (by decide) (by rfl) dX6_leastSentInTrial_10 ?_
    refine a_geti (pc := 13) fl_X6_60 (by assumption) (by decide) (by rfl) dX6_leastSentInTrial_13 ?_
    refine a_top (y := nI N) h0 ?_
    refine a_icmp_ge (pc := 16) (tgt := 35) dX6_leastSentInTrial_16 (by decide) (fun c_16 => ?_) (fun c_16 => ?_)
    · have e : i = N := by omega
      subst e
      refine a_iload_n (pc := 35) dX6_leastSentInTrial_35 rfl rfl ?_
      exact a_iret (pc := 36) rfl dX6_leastSentInTrial_36 hQ
    · exact absurd (lt_of_not_ge' (a := i) (b := N) (by omega) (by omega) c_16) (by omega)
  | succ d ih =>
    intro i hd h1
    refine a_iload_n (pc := 8) dX6_leastSentInTrial_8 rfl rfl ?_
    refine a_aload_n (pc := 9) dX6_leastSentInTrial_9 rfl rfl ?_
    refine a_getr (pc := 10) fl_X6_16 (by assumption) (by decide) (by rfl) dX6_leastSentInTrial_10 ?_
    refine a_geti (pc := 13) fl_X6_60 (by assumption) (by decide) (by rfl) dX6_leastSentInTrial_13 ?_
    refine a_top (y := nI N) h0 ?_
    refine a_icmp_ge (pc := 16) (tgt := 35) dX6_leastSentInTrial_16 (by decide) (fun c_16 => ?_) (fun c_16 => ?_)
    · exact absurd (le_of_ge' (a := i) (b := N) (by omega) (by omega) c_16) (by omega)
    · refine a_iload_n (pc := 19) dX6_leastSentInTrial_19 rfl rfl ?_
      refine a_aload_n (pc := 20) dX6_leastSentInTrial_20 rfl rfl ?_
      refine a_iload_n (pc := 21) dX6_leastSentInTrial_21 rfl rfl ?_
      refine a_callI1 (pc := 22) ck_X6_223 ⟨(Nat.le_of_ble_eq_true rfl), (Nat.le_of_ble_eq_true rfl)⟩ (by assumption) (by decide) (Nat.le_of_ble_eq_true rfl) dX6_leastSentInTrial_22 rfl (c_X6_sentInTrial (by omega)) ?_
      rintro r u ⟨rfl, rfl⟩
      refine a_mmin (pc := 25) nl_X6_218 nw_min1 nw_math nw_min3 (Nat.le_of_ble_eq_true rfl) (Nat.le_of_ble_eq_true rfl) dX6_leastSentInTrial_25 ?_
      refine a_top (y := mnG (stG μ) (i + 1)) (mnG_s h1).symm ?_
      refine a_istore_n (pc := 28) (al' := [some (.ref _), some (.int _), some (.int _)]) dX6_leastSentInTrial_28 rfl (by decide) rfl rfl ?_
      refine a_iincN (pc := 29) (m := 1) (al' := [some (.ref _), some (.int _), some (.int _)]) dX6_leastSentInTrial_29 rfl (by decide) rfl rfl ?_
      refine a_goto (pc := 32) (tgt := 8) dX6_leastSentInTrial_32 (by decide) ?_
      exact ih (i + 1) (by omega) (by omega)
set_option maxHeartbeats 4000000 in
set_option maxRecDepth 100000 in
theorem c_X6_leastSentInTrial {μ : Mem} {N : Nat} (h0 : μ 2 0 = nI N) (hN : N ≤ 6) (hN1 : 1 ≤ N) : Con shC mX6_leastSentInTrial [.ref 0] μ (fun r u => r = mnG (stG μ) N ∧ μ = u) := by
  have z0 : shC[0]? = some (6, 8, [some 1, none, some 2, some 53, some 104, some 106, none, none]) := rfl
  have hn := net_2
  obtain ⟨hn0, hn1, hn2, hnS⟩ := id hn
  have hm := net_53
  obtain ⟨hm0, hm1, hm2, hmS⟩ := id hm
  refine Con.ofAW (al0 := [some (.ref 0), none, none]) (by decide) rfl (Nat.le_of_ble_eq_true rfl) rfl ?_
  refine a_aload_n (pc := 0) dX6_leastSentInTrial_0 rfl rfl ?_
  refine a_iconst (pc := 1) (v := 0) dX6_leastSentInTrial_1 (by decide) ?_
  refine a_callI1 (pc := 2) ck_X6_223 ⟨(Nat.le_of_ble_eq_true rfl), (Nat.le_of_ble_eq_true rfl)⟩ (by assumption) (by decide) (Nat.le_of_ble_eq_true rfl) dX6_leastSentInTrial_2 rfl (c_X6_sentInTrial (i := 0) (by omega)) ?_
  rintro r u ⟨rfl, rfl⟩
  refine a_top (y := mnG (stG μ) 1) rfl ?_
  refine a_istore_n (pc := 5) (al' := [some (.ref _), some (.int _), none]) dX6_leastSentInTrial_5 rfl (by decide) rfl rfl ?_
  refine a_iconst (pc := 6) (v := 1) dX6_leastSentInTrial_6 (by decide) ?_
  refine a_istore_n (pc := 7) (al' := [some (.ref _), some (.int _), some (.int _)]) dX6_leastSentInTrial_7 rfl (by decide) rfl rfl ?_
  exact l_X6_leastSentInTrial h0 hN ⟨rfl, rfl⟩ (N - 1) 1 (by omega) (by omega)

set_option maxHeartbeats 4000000 in
set_option maxRecDepth 100000 in
theorem c_X6_aheadX {μ : Mem} {k w : Int32} (h : ¬ ((¬ k < 1 ∧ ¬ 99 < k) ∧ ¬ w < 0 ∧ ¬ 5 < w)) : Con shC mX6_ahead [.ref 0, .int k, .int w] μ (fun r u => r = -1 ∧ μ = u) := by
  have z0 : shC[0]? = some (6, 8, [some 1, none, some 2, some 53, some 104, some 106, none, none]) := rfl
  have hn := net_2
  obtain ⟨hn0, hn1, hn2, hnS⟩ := id hn
  refine Con.ofAW (al0 := [some (.ref 0), some (.int k), some (.int w)]) (by decide) rfl (Nat.le_of_ble_eq_true rfl) rfl ?_
  refine a_iload_n (pc := 0) dX6_ahead_0 rfl rfl ?_
  refine a_iconst (pc := 1) (v := 1) dX6_ahead_1 (by decide) ?_
  refine a_icmp_lt (pc := 2) (tgt := 20) dX6_ahead_2 (by decide) (fun c_2 => ?_) (fun c_2 => ?_)
  · refine a_iconst (pc := 20) (v := -1) dX6_ahead_20 (by decide) ?_
    refine a_iret (pc := 21) rfl dX6_ahead_21 ?_
    exact ⟨rfl, rfl⟩
  · refine a_iload_n (pc := 5) dX6_ahead_5 rfl rfl ?_
    refine a_bipush (pc := 6) (v := 99) dX6_ahead_6 (by decide) ?_
    refine a_icmp_gt (pc := 8) (tgt := 20) dX6_ahead_8 (by decide) (fun c_8 => ?_) (fun c_8 => ?_)
    · refine a_iconst (pc := 20) (v := -1) dX6_ahead_20 (by decide) ?_
      refine a_iret (pc := 21) rfl dX6_ahead_21 ?_
      exact ⟨rfl, rfl⟩
    · refine a_iload_n (pc := 11) dX6_ahead_11 rfl rfl ?_
      refine a_if_lt (pc := 12) (tgt := 20) dX6_ahead_12 (by decide) (fun c_12 => ?_) (fun c_12 => ?_)
      · refine a_iconst (pc := 20) (v := -1) dX6_ahead_20 (by decide) ?_
        refine a_iret (pc := 21) rfl dX6_ahead_21 ?_
        exact ⟨rfl, rfl⟩
      · refine a_iload_n (pc := 15) dX6_ahead_15 rfl rfl ?_
        refine a_iconst (pc := 16) (v := 5) dX6_ahead_16 (by decide) ?_
        refine a_icmp_le (pc := 17) (tgt := 22) dX6_ahead_17 (by decide) (fun c_17 => ?_) (fun c_17 => ?_)
        · exfalso
          rw [← Int32.not_lt] at c_17
          exact h ⟨⟨c_2, c_8⟩, c_12, c_17⟩
        · refine a_iconst (pc := 20) (v := -1) dX6_ahead_20 (by decide) ?_
          refine a_iret (pc := 21) rfl dX6_ahead_21 ?_
          exact ⟨rfl, rfl⟩

set_option maxHeartbeats 4000000 in
set_option maxRecDepth 100000 in
theorem c_X7_aheadX {ν : Mem} {k w : Int32} (h : ¬ ((¬ k < 1 ∧ ¬ 99 < k) ∧ ¬ w < 0 ∧ ¬ 5 < w)) : Con shM mX7_ahead [.ref 0, .int k, .int w] ν (fun r u => r = -1 ∧ ν = u) := by
  have m0 : shM[0]? = some (7, 18, [none, some 1, none, none, none, none, none, some 2, some 3, none, none, some 4, none, none, some 5, some 6, some 7, some 8]) := rfl
  have m1 : shM[1]? = some (100, 200, []) := rfl
  have m2 : shM[2]? = some (100, 1320, []) := rfl
  have m3 : shM[3]? = some (100, 1760, []) := rfl
  have m4 : shM[4]? = some (100, 4, []) := rfl
  have m5 : shM[5]? = some (100, 6, []) := rfl
  have m6 : shM[6]? = some (100, 6, []) := rfl
  have m7 : shM[7]? = some (100, 6, []) := rfl
  have m8 : shM[8]? = some (100, 6, []) := rfl
  refine Con.ofAW (al0 := [some (.ref 0), some (.int k), some (.int w), none, none, none]) (by decide) rfl (Nat.le_of_ble_eq_true rfl) rfl ?_
  refine a_iload_n (pc := 0) dX7_ahead_0 rfl rfl ?_
  refine a_iconst (pc := 1) (v := 1) dX7_ahead_1 (by decide) ?_
  refine a_bipush (pc := 2) (v := 99) dX7_ahead_2 (by decide) ?_
  refine a_callS3 (pc := 4) cs_X7_94 ⟨(Nat.le_of_ble_eq_true rfl), (Nat.le_of_ble_eq_true rfl)⟩ (Nat.le_of_ble_eq_true rfl) dX7_ahead_4 rfl c_X7_isIn ?_
  rintro r1 u ⟨hr1, rfl⟩
  refine a_if_eq (pc := 7) (tgt := 19) dX7_ahead_7 (by decide) (fun c_7 => ?_) (fun c_7 => ?_)
  · refine a_iconst (pc := 19) (v := -1) dX7_ahead_19 (by decide) ?_
    refine a_iret (pc := 20) rfl dX7_ahead_20 ?_
    exact ⟨rfl, rfl⟩
  · refine a_iload_n (pc := 10) dX7_ahead_10 rfl rfl ?_
    refine a_iconst (pc := 11) (v := 0) dX7_ahead_11 (by decide) ?_
    refine a_iconst (pc := 12) (v := 5) dX7_ahead_12 (by decide) ?_
    refine a_callS3 (pc := 13) cs_X7_94 ⟨(Nat.le_of_ble_eq_true rfl), (Nat.le_of_ble_eq_true rfl)⟩ (Nat.le_of_ble_eq_true rfl) dX7_ahead_13 rfl c_X7_isIn ?_
    rintro r2 u ⟨hr2, rfl⟩
    refine a_if_ne (pc := 16) (tgt := 21) dX7_ahead_16 (by decide) (fun c_16 => ?_) (fun c_16 => ?_)
    · exfalso; simp_all [-Int32.not_lt, -Int32.not_le]
    · refine a_iconst (pc := 19) (v := -1) dX7_ahead_19 (by decide) ?_
      refine a_iret (pc := 20) rfl dX7_ahead_20 ?_
      exact ⟨rfl, rfl⟩

set_option maxHeartbeats 4000000 in
set_option maxRecDepth 100000 in
theorem c_X6_ahead0 {μ : Mem} {q N : Nat} (hq1 : 1 ≤ q) (hq : q ≤ 99) (h0 : μ 2 0 = nI N) (hN : N ≤ 6) (hN1 : 1 ≤ N) (hb : BLn μ 2) (hp : ∀ v, NCP v 53 μ 2 → (∀ x, (x < 53 ∨ 53 + 50 < x) → v x = μ x) → ∀ j, j < q → ∀ k, k < N → PreL (lsM (sltM (pasF v 53 N j) 53 N) 53 k) 53 k) : Con shC mX6_ahead [.ref 0, .int (nI q), .int 0] μ (fun r u => ∃ v, NCP v 53 μ 2 ∧ (∀ x, (x < 53 ∨ 53 + 50 < x) → v x = μ x) ∧ u = pasF v 53 N q ∧ r = sumF (fun i => u (stA 53 i) 6) N - sumF (fun i => u (stA 2 i) 6) N) := by
  have z0 : shC[0]? = some (6, 8, [some 1, none, some 2, some 53, some 104, some 106, none, none]) := rfl
  have hn := net_2
  obtain ⟨hn0, hn1, hn2, hnS⟩ := id hn
  have hm := net_53
  obtain ⟨hm0, hm1, hm2, hmS⟩ := id hm
  refine Con.ofAW (al0 := [some (.ref 0), some (.int (nI q)), some (.int 0)]) (by decide) rfl (Nat.le_of_ble_eq_true rfl) rfl ?_
  refine a_iload_n (pc := 0) dX6_ahead_0 rfl rfl ?_
  refine a_iconst (pc := 1) (v := 1) dX6_ahead_1 (by decide) ?_
  refine a_icmp_lt (pc := 2) (tgt := 20) dX6_ahead_2 (by decide) (fun c_2 => ?_) (fun c_2 => ?_)
  · exact absurd c_2 (nI_nlt (b := 1) (by omega) (by omega))
  · refine a_iload_n (pc := 5) dX6_ahead_5 rfl rfl ?_
    refine a_bipush (pc := 6) (v := 99) dX6_ahead_6 (by decide) ?_
    refine a_icmp_gt (pc := 8) (tgt := 20) dX6_ahead_8 (by decide) (fun c_8 => ?_) (fun c_8 => ?_)
    · exact absurd c_8 (nI_nlt (a := 99) (by omega) (by omega))
    · refine a_iload_n (pc := 11) dX6_ahead_11 rfl rfl ?_
      refine a_if_lt (pc := 12) (tgt := 20) dX6_ahead_12 (by decide) (fun c_12 => ?_) (fun c_12 => ?_)
      · exact absurd c_12 (by decide)
      · refine a_iload_n (pc := 15) dX6_ahead_15 rfl rfl ?_
        refine a_iconst (pc := 16) (v := 5) dX6_ahead_16 (by decide) ?_
        refine a_icmp_le (pc := 17) (tgt := 22) dX6_ahead_17 (by decide) (fun c_17 => ?_) (fun c_17 => ?_)
        · refine a_aload_n (pc := 22) dX6_ahead_22 rfl rfl ?_
          refine a_getr (pc := 23) fl_X6_20 (by assumption) (by decide) (by rfl) dX6_ahead_23 ?_
          refine a_aload_n (pc := 26) dX6_ahead_26 rfl rfl ?_
          refine a_getr (pc := 27) fl_X6_16 (by assumption) (by decide) (by rfl) dX6_ahead_27 ?_
          refine a_callV1 (pc := 30) ck_X6_125 ⟨(Nat.le_of_ble_eq_true rfl), (Nat.le_of_ble_eq_true rfl)⟩ (by assumption) (by decide) (Nat.le_of_ble_eq_true rfl) dX6_ahead_30 rfl (c_X2_copyFrom hm hn (Or.inl (by omega)) hb) ?_
          rintro v ⟨hC, hF⟩
          have hv0 : v 53 0 = nI N := (hC.1 0 (by omega)).trans h0
          have hv2 : ∀ q, pasF v 53 N q 2 0 = nI N := fun q => by rw [pas_x (Or.inl (by omega)), hF 2 (by omega)]; exact h0
          refine a_aload_n (pc := 33) dX6_ahead_33 rfl rfl ?_
          refine a_getr (pc := 34) fl_X6_20 (by assumption) (by decide) (by rfl) dX6_ahead_34 ?_
          refine a_iload_n (pc := 37) dX6_ahead_37 rfl rfl ?_
          refine a_callV1 (pc := 38) ck_X6_116 ⟨(Nat.le_of_ble_eq_true rfl), (Nat.le_of_ble_eq_true rfl)⟩ (by assumption) (by decide) (Nat.le_of_ble_eq_true rfl) dX6_ahead_38 rfl (c_X2_passSlots hm hv0 hN (by omega) (hp v hC hF)) ?_
          rintro u rfl
          refine a_iload_n (pc := 41) dX6_ahead_41 rfl rfl ?_
          refine a_tableIn (pc := 42) (off := 34) (tgt := 76) dX6_ahead_42 (by decide) (by decide) (by decide) (by decide) ?_
          refine a_aload_n (pc := 76) dX6_ahead_76 rfl rfl ?_
          refine a_getr (pc := 77) fl_X6_20 (by assumption) (by decide) (by rfl) dX6_ahead_77 ?_
          refine a_iconst (pc := 80) (v := 1) dX6_ahead_80 (by decide) ?_
          refine a_callI1 (pc := 81) ck_X6_113 ⟨(Nat.le_of_ble_eq_true rfl), (Nat.le_of_ble_eq_true rfl)⟩ (by assumption) (by decide) (Nat.le_of_ble_eq_true rfl) dX6_ahead_81 rfl (c_X2_totalOf1 hm (by rw [pasF_0]; exact hv0) hN) ?_
          rintro r u ⟨rfl, rfl⟩
          refine a_aload_n (pc := 84) dX6_ahead_84 rfl rfl ?_
          refine a_getr (pc := 85) fl_X6_16 (by assumption) (by decide) (by rfl) dX6_ahead_85 ?_
          refine a_iconst (pc := 88) (v := 1) dX6_ahead_88 (by decide) ?_
          refine a_callI1 (pc := 89) ck_X6_113 ⟨(Nat.le_of_ble_eq_true rfl), (Nat.le_of_ble_eq_true rfl)⟩ (by assumption) (by decide) (Nat.le_of_ble_eq_true rfl) dX6_ahead_89 rfl (c_X2_totalOf1 hn (hv2 q) hN) ?_
          rintro r u ⟨rfl, rfl⟩
          refine a_isub (pc := 92) dX6_ahead_92 ?_
          refine a_iret (pc := 93) rfl dX6_ahead_93 ?_
          exact ⟨v, hC, hF, rfl, rfl⟩
        · exact absurd c_17 (by decide)

set_option maxHeartbeats 4000000 in
set_option maxRecDepth 100000 in
theorem c_X6_ahead1 {μ : Mem} {q N : Nat} (hq1 : 1 ≤ q) (hq : q ≤ 99) (h0 : μ 2 0 = nI N) (hN : N ≤ 6) (hN1 : 1 ≤ N) (hb : BLn μ 2) (hp : ∀ v, NCP v 53 μ 2 → (∀ x, (x < 53 ∨ 53 + 50 < x) → v x = μ x) → ∀ j, j < q → ∀ k, k < N → PreL (lsM (sltM (pasF v 53 N j) 53 N) 53 k) 53 k) : Con shC mX6_ahead [.ref 0, .int (nI q), .int 1] μ (fun r u => ∃ v, NCP v 53 μ 2 ∧ (∀ x, (x < 53 ∨ 53 + 50 < x) → v x = μ x) ∧ u = pasF v 53 N q ∧ r = sumF (fun i => u (stA 53 i) 7) N - sumF (fun i => u (stA 2 i) 7) N) := by
  have z0 : shC[0]? = some (6, 8, [some 1, none, some 2, some 53, some 104, some 106, none, none]) := rfl
  have hn := net_2
  obtain ⟨hn0, hn1, hn2, hnS⟩ := id hn
  have hm := net_53
  obtain ⟨hm0, hm1, hm2, hmS⟩ := id hm
  refine Con.ofAW (al0 := [some (.ref 0), some (.int (nI q)), some (.int 1)]) (by decide) rfl (Nat.le_of_ble_eq_true rfl) rfl ?_
  refine a_iload_n (pc := 0) dX6_ahead_0 rfl rfl ?_
  refine a_iconst (pc := 1) (v := 1) dX6_ahead_1 (by decide) ?_
  refine a_icmp_lt (pc := 2) (tgt := 20) dX6_ahead_2 (by decide) (fun c_2 => ?_) (fun c_2 => ?_)
  · exact absurd c_2 (nI_nlt (b := 1) (by omega) (by omega))
  · refine a_iload_n (pc := 5) dX6_ahead_5 rfl rfl ?_
    refine a_bipush (pc := 6) (v := 99) dX6_ahead_6 (by decide) ?_
    refine a_icmp_gt (pc := 8) (tgt := 20) dX6_ahead_8 (by decide) (fun c_8 => ?_) (fun c_8 => ?_)
    · exact absurd c_8 (nI_nlt (a := 99) (by omega) (by omega))
    · refine a_iload_n (pc := 11) dX6_ahead_11 rfl rfl ?_
      refine a_if_lt (pc := 12) (tgt := 20) dX6_ahead_12 (by decide) (fun c_12 => ?_) (fun c_12 => ?_)
      · exact absurd c_12 (by decide)
      · refine a_iload_n (pc := 15) dX6_ahead_15 rfl rfl ?_
        refine a_iconst (pc := 16) (v := 5) dX6_ahead_16 (by decide) ?_
        refine a_icmp_le (pc := 17) (tgt := 22) dX6_ahead_17 (by decide) (fun c_17 => ?_) (fun c_17 => ?_)
        · refine a_aload_n (pc := 22) dX6_ahead_22 rfl rfl ?_
          refine a_getr (pc := 23) fl_X6_20 (by assumption) (by decide) (by rfl) dX6_ahead_23 ?_
          refine a_aload_n (pc := 26) dX6_ahead_26 rfl rfl ?_
          refine a_getr (pc := 27) fl_X6_16 (by assumption) (by decide) (by rfl) dX6_ahead_27 ?_
          refine a_callV1 (pc := 30) ck_X6_125 ⟨(Nat.le_of_ble_eq_true rfl), (Nat.le_of_ble_eq_true rfl)⟩ (by assumption) (by decide) (Nat.le_of_ble_eq_true rfl) dX6_ahead_30 rfl (c_X2_copyFrom hm hn (Or.inl (by omega)) hb) ?_
          rintro v ⟨hC, hF⟩
          have hv0 : v 53 0 = nI N := (hC.1 0 (by omega)).trans h0
          have hv2 : ∀ q, pasF v 53 N q 2 0 = nI N := fun q => by rw [pas_x (Or.inl (by omega)), hF 2 (by omega)]; exact h0
          refine a_aload_n (pc := 33) dX6_ahead_33 rfl rfl ?_
          refine a_getr (pc := 34) fl_X6_20 (by assumption) (by decide) (by rfl) dX6_ahead_34 ?_
          refine a_iload_n (pc := 37) dX6_ahead_37 rfl rfl ?_
          refine a_callV1 (pc := 38) ck_X6_116 ⟨(Nat.le_of_ble_eq_true rfl), (Nat.le_of_ble_eq_true rfl)⟩ (by assumption) (by decide) (Nat.le_of_ble_eq_true rfl) dX6_ahead_38 rfl (c_X2_passSlots hm hv0 hN (by omega) (hp v hC hF)) ?_
          rintro u rfl
          refine a_iload_n (pc := 41) dX6_ahead_41 rfl rfl ?_
          refine a_tableIn (pc := 42) (off := 52) (tgt := 94) dX6_ahead_42 (by decide) (by decide) (by decide) (by decide) ?_
          refine a_aload_n (pc := 94) dX6_ahead_94 rfl rfl ?_
          refine a_getr (pc := 95) fl_X6_20 (by assumption) (by decide) (by rfl) dX6_ahead_95 ?_
          refine a_iconst (pc := 98) (v := 2) dX6_ahead_98 (by decide) ?_
          refine a_callI1 (pc := 99) ck_X6_113 ⟨(Nat.le_of_ble_eq_true rfl), (Nat.le_of_ble_eq_true rfl)⟩ (by assumption) (by decide) (Nat.le_of_ble_eq_true rfl) dX6_ahead_99 rfl (c_X2_totalOf2 hm (by rw [pasF_0]; exact hv0) hN) ?_
          rintro r u ⟨rfl, rfl⟩
          refine a_aload_n (pc := 102) dX6_ahead_102 rfl rfl ?_
          refine a_getr (pc := 103) fl_X6_16 (by assumption) (by decide) (by rfl) dX6_ahead_103 ?_
          refine a_iconst (pc := 106) (v := 2) dX6_ahead_106 (by decide) ?_
          refine a_callI1 (pc := 107) ck_X6_113 ⟨(Nat.le_of_ble_eq_true rfl), (Nat.le_of_ble_eq_true rfl)⟩ (by assumption) (by decide) (Nat.le_of_ble_eq_true rfl) dX6_ahead_107 rfl (c_X2_totalOf2 hn (hv2 q) hN) ?_
          rintro r u ⟨rfl, rfl⟩
          refine a_isub (pc := 110) dX6_ahead_110 ?_
          refine a_iret (pc := 111) rfl dX6_ahead_111 ?_
          exact ⟨v, hC, hF, rfl, rfl⟩
        · exact absurd c_17 (by decide)

set_option maxHeartbeats 4000000 in
set_option maxRecDepth 100000 in
theorem c_X6_ahead2 {μ : Mem} {q N : Nat} (hq1 : 1 ≤ q) (hq : q ≤ 99) (h0 : μ 2 0 = nI N) (hN : N ≤ 6) (hN1 : 1 ≤ N) (hb : BLn μ 2) (hp : ∀ v, NCP v 53 μ 2 → (∀ x, (x < 53 ∨ 53 + 50 < x) → v x = μ x) → ∀ j, j < q → ∀ k, k < N → PreL (lsM (sltM (pasF v 53 N j) 53 N) 53 k) 53 k) : Con shC mX6_ahead [.ref 0, .int (nI q), .int 2] μ (fun r u => ∃ v, NCP v 53 μ 2 ∧ (∀ x, (x < 53 ∨ 53 + 50 < x) → v x = μ x) ∧ u = pasF v 53 N q ∧ r = sumF (fun i => u (stA 53 i) 5) N - sumF (fun i => u (stA 2 i) 5) N) := by
  have z0 : shC[0]? = some (6, 8, [some 1, none, some 2, some 53, some 104, some 106, none, none]) := rfl
  have hn := net_2
  obtain ⟨hn0, hn1, hn2, hnS⟩ := id hn
  have hm := net_53
  obtain ⟨hm0, hm1, hm2, hmS⟩ := id hm
  refine Con.ofAW (al0 := [some (.ref 0), some (.int (nI q)), some (.int 2)]) (by decide) rfl (Nat.le_of_ble_eq_true rfl) rfl ?_
  refine a_iload_n (pc := 0) dX6_ahead_0 rfl rfl ?_
  refine a_iconst (pc := 1) (v := 1) dX6_ahead_1 (by decide) ?_
  refine a_icmp_lt (pc := 2) (tgt := 20) dX6_ahead_2 (by decide) (fun c_2 => ?_) (fun c_2 => ?_)
  · exact absurd c_2 (nI_nlt (b := 1) (by omega) (by omega))
  · refine a_iload_n (pc := 5) dX6_ahead_5 rfl rfl ?_
    refine a_bipush (pc := 6) (v := 99) dX6_ahead_6 (by decide) ?_
    refine a_icmp_gt (pc := 8) (tgt := 20) dX6_ahead_8 (by decide) (fun c_8 => ?_) (fun c_8 => ?_)
    · exact absurd c_8 (nI_nlt (a := 99) (by omega) (by omega))
    · refine a_iload_n (pc := 11) dX6_ahead_11 rfl rfl ?_
      refine a_if_lt (pc := 12) (tgt := 20) dX6_ahead_12 (by decide) (fun c_12 => ?_) (fun c_12 => ?_)
      · exact absurd c_12 (by decide)
      · refine a_iload_n (pc := 15) dX6_ahead_15 rfl rfl ?_
        refine a_iconst (pc := 16) (v := 5) dX6_ahead_16 (by decide) ?_
        refine a_icmp_le (pc := 17) (tgt := 22) dX6_ahead_17 (by decide) (fun c_17 => ?_) (fun c_17 => ?_)
        · refine a_aload_n (pc := 22) dX6_ahead_22 rfl rfl ?_
          refine a_getr (pc := 23) fl_X6_20 (by assumption) (by decide) (by rfl) dX6_ahead_23 ?_
          refine a_aload_n (pc := 26) dX6_ahead_26 rfl rfl ?_
          refine a_getr (pc := 27) fl_X6_16 (by assumption) (by decide) (by rfl) dX6_ahead_27 ?_
          refine a_callV1 (pc := 30) ck_X6_125 ⟨(Nat.le_of_ble_eq_true rfl), (Nat.le_of_ble_eq_true rfl)⟩ (by assumption) (by decide) (Nat.le_of_ble_eq_true rfl) dX6_ahead_30 rfl (c_X2_copyFrom hm hn (Or.inl (by omega)) hb) ?_
          rintro v ⟨hC, hF⟩
          have hv0 : v 53 0 = nI N := (hC.1 0 (by omega)).trans h0
          have hv2 : ∀ q, pasF v 53 N q 2 0 = nI N := fun q => by rw [pas_x (Or.inl (by omega)), hF 2 (by omega)]; exact h0
          refine a_aload_n (pc := 33) dX6_ahead_33 rfl rfl ?_
          refine a_getr (pc := 34) fl_X6_20 (by assumption) (by decide) (by rfl) dX6_ahead_34 ?_
          refine a_iload_n (pc := 37) dX6_ahead_37 rfl rfl ?_
          refine a_callV1 (pc := 38) ck_X6_116 ⟨(Nat.le_of_ble_eq_true rfl), (Nat.le_of_ble_eq_true rfl)⟩ (by assumption) (by decide) (Nat.le_of_ble_eq_true rfl) dX6_ahead_38 rfl (c_X2_passSlots hm hv0 hN (by omega) (hp v hC hF)) ?_
          rintro u rfl
          refine a_iload_n (pc := 41) dX6_ahead_41 rfl rfl ?_
          refine a_tableIn (pc := 42) (off := 70) (tgt := 112) dX6_ahead_42 (by decide) (by decide) (by decide) (by decide) ?_
          refine a_aload_n (pc := 112) dX6_ahead_112 rfl rfl ?_
          refine a_getr (pc := 113) fl_X6_20 (by assumption) (by decide) (by rfl) dX6_ahead_113 ?_
          refine a_iconst (pc := 116) (v := 3) dX6_ahead_116 (by decide) ?_
          refine a_callI1 (pc := 117) ck_X6_113 ⟨(Nat.le_of_ble_eq_true rfl), (Nat.le_of_ble_eq_true rfl)⟩ (by assumption) (by decide) (Nat.le_of_ble_eq_true rfl) dX6_ahead_117 rfl (c_X2_totalOf3 hm (by rw [pasF_0]; exact hv0) hN) ?_
          rintro r u ⟨rfl, rfl⟩
          refine a_aload_n (pc := 120) dX6_ahead_120 rfl rfl ?_
          refine a_getr (pc := 121) fl_X6_16 (by assumption) (by decide) (by rfl) dX6_ahead_121 ?_
          refine a_iconst (pc := 124) (v := 3) dX6_ahead_124 (by decide) ?_
          refine a_callI1 (pc := 125) ck_X6_113 ⟨(Nat.le_of_ble_eq_true rfl), (Nat.le_of_ble_eq_true rfl)⟩ (by assumption) (by decide) (Nat.le_of_ble_eq_true rfl) dX6_ahead_125 rfl (c_X2_totalOf3 hn (hv2 q) hN) ?_
          rintro r u ⟨rfl, rfl⟩
          refine a_isub (pc := 128) dX6_ahead_128 ?_
          refine a_iret (pc := 129) rfl dX6_ahead_129 ?_
          exact ⟨v, hC, hF, rfl, rfl⟩
        · exact absurd c_17 (by decide)

set_option maxHeartbeats 4000000 in
set_option maxRecDepth 100000 in
theorem c_X6_ahead3 {μ : Mem} {q N : Nat} (hq1 : 1 ≤ q) (hq : q ≤ 99) (h0 : μ 2 0 = nI N) (hN : N ≤ 6) (hN1 : 1 ≤ N) (hb : BLn μ 2) (hp : ∀ v, NCP v 53 μ 2 → (∀ x, (x < 53 ∨ 53 + 50 < x) → v x = μ x) → ∀ j, j < q → ∀ k, k < N → PreL (lsM (sltM (pasF v 53 N j) 53 N) 53 k) 53 k) : Con shC mX6_ahead [.ref 0, .int (nI q), .int 3] μ (fun r u => ∃ v, NCP v 53 μ 2 ∧ (∀ x, (x < 53 ∨ 53 + 50 < x) → v x = μ x) ∧ u = pasF v 53 N q ∧ r = mxG (stG u) N) := by
  have z0 : shC[0]? = some (6, 8, [some 1, none, some 2, some 53, some 104, some 106, none, none]) := rfl
  have hn := net_2
  obtain ⟨hn0, hn1, hn2, hnS⟩ := id hn
  have hm := net_53
  obtain ⟨hm0, hm1, hm2, hmS⟩ := id hm
  refine Con.ofAW (al0 := [some (.ref 0), some (.int (nI q)), some (.int 3)]) (by decide) rfl (Nat.le_of_ble_eq_true rfl) rfl ?_
  refine a_iload_n (pc := 0) dX6_ahead_0 rfl rfl ?_
  refine a_iconst (pc := 1) (v := 1) dX6_ahead_1 (by decide) ?_
  refine a_icmp_lt (pc := 2) (tgt := 20) dX6_ahead_2 (by decide) (fun c_2 => ?_) (fun c_2 => ?_)
  · exact absurd c_2 (nI_nlt (b := 1) (by omega) (by omega))
  · refine a_iload_n (pc := 5) dX6_ahead_5 rfl rfl ?_
    refine a_bipush (pc := 6) (v := 99) dX6_ahead_6 (by decide) ?_
    refine a_icmp_gt (pc := 8) (tgt := 20) dX6_ahead_8 (by decide) (fun c_8 => ?_) (fun c_8 => ?_)
    · exact absurd c_8 (nI_nlt (a := 99) (by omega) (by omega))
    · refine a_iload_n (pc := 11) dX6_ahead_11 rfl rfl ?_
      refine a_if_lt (pc := 12) (tgt := 20) dX6_ahead_12 (by decide) (fun c_12 => ?_) (fun c_12 => ?_)
      · exact absurd c_12 (by decide)
      · refine a_iload_n (pc := 15) dX6_ahead_15 rfl rfl ?_
        refine a_iconst (pc := 16) (v := 5) dX6_ahead_16 (by decide) ?_
        refine a_icmp_le (pc := 17) (tgt := 22) dX6_ahead_17 (by decide) (fun c_17 => ?_) (fun c_17 => ?_)
        · refine a_aload_n (pc := 22) dX6_ahead_22 rfl rfl ?_
          refine a_getr (pc := 23) fl_X6_20 (by assumption) (by decide) (by rfl) dX6_ahead_23 ?_
          refine a_aload_n (pc := 26) dX6_ahead_26 rfl rfl ?_
          refine a_getr (pc := 27) fl_X6_16 (by assumption) (by decide) (by rfl) dX6_ahead_27 ?_
          refine a_callV1 (pc := 30) ck_X6_125 ⟨(Nat.le_of_ble_eq_true rfl), (Nat.le_of_ble_eq_true rfl)⟩ (by assumption) (by decide) (Nat.le_of_ble_eq_true rfl) dX6_ahead_30 rfl (c_X2_copyFrom hm hn (Or.inl (by omega)) hb) ?_
          rintro v ⟨hC, hF⟩
          have hv0 : v 53 0 = nI N := (hC.1 0 (by omega)).trans h0
          have hv2 : ∀ q, pasF v 53 N q 2 0 = nI N := fun q => by rw [pas_x (Or.inl (by omega)), hF 2 (by omega)]; exact h0
          refine a_aload_n (pc := 33) dX6_ahead_33 rfl rfl ?_
          refine a_getr (pc := 34) fl_X6_20 (by assumption) (by decide) (by rfl) dX6_ahead_34 ?_
          refine a_iload_n (pc := 37) dX6_ahead_37 rfl rfl ?_
          refine a_callV1 (pc := 38) ck_X6_116 ⟨(Nat.le_of_ble_eq_true rfl), (Nat.le_of_ble_eq_true rfl)⟩ (by assumption) (by decide) (Nat.le_of_ble_eq_true rfl) dX6_ahead_38 rfl (c_X2_passSlots hm hv0 hN (by omega) (hp v hC hF)) ?_
          rintro u rfl
          refine a_iload_n (pc := 41) dX6_ahead_41 rfl rfl ?_
          refine a_tableIn (pc := 42) (off := 88) (tgt := 130) dX6_ahead_42 (by decide) (by decide) (by decide) (by decide) ?_
          refine a_aload_n (pc := 130) dX6_ahead_130 rfl rfl ?_
          refine a_callI0 (pc := 131) ck_X6_197 ⟨(Nat.le_of_ble_eq_true rfl), (Nat.le_of_ble_eq_true rfl)⟩ (by assumption) (by decide) (Nat.le_of_ble_eq_true rfl) dX6_ahead_131 rfl (c_X6_mostSentInTrial (hv2 q) hN hN1) ?_
          rintro r u ⟨rfl, rfl⟩
          refine a_iret (pc := 134) rfl dX6_ahead_134 ?_
          exact ⟨v, hC, hF, rfl, rfl⟩
        · exact absurd c_17 (by decide)

set_option maxHeartbeats 4000000 in
set_option maxRecDepth 100000 in
theorem c_X6_ahead4 {μ : Mem} {q N : Nat} (hq1 : 1 ≤ q) (hq : q ≤ 99) (h0 : μ 2 0 = nI N) (hN : N ≤ 6) (hN1 : 1 ≤ N) (hb : BLn μ 2) (hp : ∀ v, NCP v 53 μ 2 → (∀ x, (x < 53 ∨ 53 + 50 < x) → v x = μ x) → ∀ j, j < q → ∀ k, k < N → PreL (lsM (sltM (pasF v 53 N j) 53 N) 53 k) 53 k) : Con shC mX6_ahead [.ref 0, .int (nI q), .int 4] μ (fun r u => ∃ v, NCP v 53 μ 2 ∧ (∀ x, (x < 53 ∨ 53 + 50 < x) → v x = μ x) ∧ u = pasF v 53 N q ∧ r = mnG (stG u) N) := by
  have z0 : shC[0]? = some (6, 8, [some 1, none, some 2, some 53, some 104, some 106, none, none]) := rfl
  have hn := net_2
  obtain ⟨hn0, hn1, hn2, hnS⟩ := id hn
  have hm := net_53
  obtain ⟨hm0, hm1, hm2, hmS⟩ := id hm
  refine Con.ofAW (al0 := [some (.ref 0), some (.int (nI q)), some (.int 4)]) (by decide) rfl (Nat.le_of_ble_eq_true rfl) rfl ?_
  refine a_iload_n (pc := 0) dX6_ahead_0 rfl rfl ?_
  refine a_iconst (pc := 1) (v := 1) dX6_ahead_1 (by decide) ?_
  refine a_icmp_lt (pc := 2) (tgt := 20) dX6_ahead_2 (by decide) (fun c_2 => ?_) (fun c_2 => ?_)
  · exact absurd c_2 (nI_nlt (b := 1) (by omega) (by omega))
  · refine a_iload_n (pc := 5) dX6_ahead_5 rfl rfl ?_
    refine a_bipush (pc := 6) (v := 99) dX6_ahead_6 (by decide) ?_
    refine a_icmp_gt (pc := 8) (tgt := 20) dX6_ahead_8 (by decide) (fun c_8 => ?_) (fun c_8 => ?_)
    · exact absurd c_8 (nI_nlt (a := 99) (by omega) (by omega))
    · refine a_iload_n (pc := 11) dX6_ahead_11 rfl rfl ?_
      refine a_if_lt (pc := 12) (tgt := 20) dX6_ahead_12 (by decide) (fun c_12 => ?_) (fun c_12 => ?_)
      · exact absurd c_12 (by decide)
      · refine a_iload_n (pc := 15) dX6_ahead_15 rfl rfl ?_
        refine a_iconst (pc := 16) (v := 5) dX6_ahead_16 (by decide) ?_
        refine a_icmp_le (pc := 17) (tgt := 22) dX6_ahead_17 (by decide) (fun c_17 => ?_) (fun c_17 => ?_)
        · refine a_aload_n (pc := 22) dX6_ahead_22 rfl rfl ?_
          refine a_getr (pc := 23) fl_X6_20 (by assumption) (by decide) (by rfl) dX6_ahead_23 ?_
          refine a_aload_n (pc := 26) dX6_ahead_26 rfl rfl ?_
          refine a_getr (pc := 27) fl_X6_16 (by assumption) (by decide) (by rfl) dX6_ahead_27 ?_
          refine a_callV1 (pc := 30) ck_X6_125 ⟨(Nat.le_of_ble_eq_true rfl), (Nat.le_of_ble_eq_true rfl)⟩ (by assumption) (by decide) (Nat.le_of_ble_eq_true rfl) dX6_ahead_30 rfl (c_X2_copyFrom hm hn (Or.inl (by omega)) hb) ?_
          rintro v ⟨hC, hF⟩
          have hv0 : v 53 0 = nI N := (hC.1 0 (by omega)).trans h0
          have hv2 : ∀ q, pasF v 53 N q 2 0 = nI N := fun q => by rw [pas_x (Or.inl (by omega)), hF 2 (by omega)]; exact h0
          refine a_aload_n (pc := 33) dX6_ahead_33 rfl rfl ?_
          refine a_getr (pc := 34) fl_X6_20 (by assumption) (by decide) (by rfl) dX6_ahead_34 ?_
          refine a_iload_n (pc := 37) dX6_ahead_37 rfl rfl ?_
          refine a_callV1 (pc := 38) ck_X6_116 ⟨(Nat.le_of_ble_eq_true rfl), (Nat.le_of_ble_eq_true rfl)⟩ (by assumption) (by decide) (Nat.le_of_ble_eq_true rfl) dX6_ahead_38 rfl (c_X2_passSlots hm hv0 hN (by omega) (hp v hC hF)) ?_
          rintro u rfl
          refine a_iload_n (pc := 41) dX6_ahead_41 rfl rfl ?_
          refine a_tableIn (pc := 42) (off := 93) (tgt := 135) dX6_ahead_42 (by decide) (by decide) (by decide) (by decide) ?_
          refine a_aload_n (pc := 135) dX6_ahead_135 rfl rfl ?_
          refine a_callI0 (pc := 136) ck_X6_200 ⟨(Nat.le_of_ble_eq_true rfl), (Nat.le_of_ble_eq_true rfl)⟩ (by assumption) (by decide) (Nat.le_of_ble_eq_true rfl) dX6_ahead_136 rfl (c_X6_leastSentInTrial (hv2 q) hN hN1) ?_
          rintro r u ⟨rfl, rfl⟩
          refine a_iret (pc := 139) rfl dX6_ahead_139 ?_
          exact ⟨v, hC, hF, rfl, rfl⟩
        · exact absurd c_17 (by decide)

set_option maxHeartbeats 4000000 in
set_option maxRecDepth 100000 in
theorem c_X6_ahead5 {μ : Mem} {q N : Nat} (hq1 : 1 ≤ q) (hq : q ≤ 99) (h0 : μ 2 0 = nI N) (hN : N ≤ 6) (hN1 : 1 ≤ N) (hb : BLn μ 2) (hp : ∀ v, NCP v 53 μ 2 → (∀ x, (x < 53 ∨ 53 + 50 < x) → v x = μ x) → ∀ j, j < q → ∀ k, k < N → PreL (lsM (sltM (pasF v 53 N j) 53 N) 53 k) 53 k) : Con shC mX6_ahead [.ref 0, .int (nI q), .int 5] μ (fun r u => ∃ v, NCP v 53 μ 2 ∧ (∀ x, (x < 53 ∨ 53 + 50 < x) → v x = μ x) ∧ u = pasF v 53 N q ∧ r = sumF (fun i => u (stA 53 i + 1) 0) N) := by
  have z0 : shC[0]? = some (6, 8, [some 1, none, some 2, some 53, some 104, some 106, none, none]) := rfl
  have hn := net_2
  obtain ⟨hn0, hn1, hn2, hnS⟩ := id hn
  have hm := net_53
  obtain ⟨hm0, hm1, hm2, hmS⟩ := id hm
  refine Con.ofAW (al0 := [some (.ref 0), some (.int (nI q)), some (.int 5)]) (by decide) rfl (Nat.le_of_ble_eq_true rfl) rfl ?_
  refine a_iload_n (pc := 0) dX6_ahead_0 rfl rfl ?_
  refine a_iconst (pc := 1) (v := 1) dX6_ahead_1 (by decide) ?_
  refine a_icmp_lt (pc := 2) (tgt := 20) dX6_ahead_2 (by decide) (fun c_2 => ?_) (fun c_2 => ?_)
  · exact absurd c_2 (nI_nlt (b := 1) (by omega) (by omega))
  · refine a_iload_n (pc := 5) dX6_ahead_5 rfl rfl ?_
    refine a_bipush (pc := 6) (v := 99) dX6_ahead_6 (by decide) ?_
    refine a_icmp_gt (pc := 8) (tgt := 20) dX6_ahead_8 (by decide) (fun c_8 => ?_) (fun c_8 => ?_)
    · exact absurd c_8 (nI_nlt (a := 99) (by omega) (by omega))
    · refine a_iload_n (pc := 11) dX6_ahead_11 rfl rfl ?_
      refine a_if_lt (pc := 12) (tgt := 20) dX6_ahead_12 (by decide) (fun c_12 => ?_) (fun c_12 => ?_)
      · exact absurd c_12 (by decide)
      · refine a_iload_n (pc := 15) dX6_ahead_15 rfl rfl ?_
        refine a_iconst (pc := 16) (v := 5) dX6_ahead_16 (by decide) ?_
        refine a_icmp_le (pc := 17) (tgt := 22) dX6_ahead_17 (by decide) (fun c_17 => ?_) (fun c_17 => ?_)
        · refine a_aload_n (pc := 22) dX6_ahead_22 rfl rfl ?_
          refine a_getr (pc := 23) fl_X6_20 (by assumption) (by decide) (by rfl) dX6_ahead_23 ?_
          refine a_aload_n (pc := 26) dX6_ahead_26 rfl rfl ?_
          refine a_getr (pc := 27) fl_X6_16 (by assumption) (by decide) (by rfl) dX6_ahead_27 ?_
          refine a_callV1 (pc := 30) ck_X6_125 ⟨(Nat.le_of_ble_eq_true rfl), (Nat.le_of_ble_eq_true rfl)⟩ (by assumption) (by decide) (Nat.le_of_ble_eq_true rfl) dX6_ahead_30 rfl (c_X2_copyFrom hm hn (Or.inl (by omega)) hb) ?_
          rintro v ⟨hC, hF⟩
          have hv0 : v 53 0 = nI N := (hC.1 0 (by omega)).trans h0
          have hv2 : ∀ q, pasF v 53 N q 2 0 = nI N := fun q => by rw [pas_x (Or.inl (by omega)), hF 2 (by omega)]; exact h0
          refine a_aload_n (pc := 33) dX6_ahead_33 rfl rfl ?_
          refine a_getr (pc := 34) fl_X6_20 (by assumption) (by decide) (by rfl) dX6_ahead_34 ?_
          refine a_iload_n (pc := 37) dX6_ahead_37 rfl rfl ?_
          refine a_callV1 (pc := 38) ck_X6_116 ⟨(Nat.le_of_ble_eq_true rfl), (Nat.le_of_ble_eq_true rfl)⟩ (by assumption) (by decide) (Nat.le_of_ble_eq_true rfl) dX6_ahead_38 rfl (c_X2_passSlots hm hv0 hN (by omega) (hp v hC hF)) ?_
          rintro u rfl
          refine a_iload_n (pc := 41) dX6_ahead_41 rfl rfl ?_
          refine a_tableOut (pc := 42) (tgt := 140) dX6_ahead_42 (by decide) (by decide) ?_
          refine a_aload_n (pc := 140) dX6_ahead_140 rfl rfl ?_
          refine a_getr (pc := 141) fl_X6_20 (by assumption) (by decide) (by rfl) dX6_ahead_141 ?_
          refine a_iconst (pc := 144) (v := 0) dX6_ahead_144 (by decide) ?_
          refine a_callI1 (pc := 145) ck_X6_113 ⟨(Nat.le_of_ble_eq_true rfl), (Nat.le_of_ble_eq_true rfl)⟩ (by assumption) (by decide) (Nat.le_of_ble_eq_true rfl) dX6_ahead_145 rfl (c_X2_totalOf0 hm (by rw [pasF_0]; exact hv0) hN) ?_
          rintro r u ⟨rfl, rfl⟩
          refine a_iret (pc := 148) rfl dX6_ahead_148 ?_
          exact ⟨v, hC, hF, rfl, rfl⟩
        · exact absurd c_17 (by decide)

def rtG (ν : Mem) (i : Nat) : Int32 := ν 2 (440 * 1 + 70 * i + 5) - ν 2 (440 * 0 + 70 * i + 5)
set_option maxHeartbeats 4000000 in
set_option maxRecDepth 100000 in
theorem l_X7_ahead {ν : Mem} {q N : Nat} {a w : Int32} (hq : q ≤ 99) (h0 : ν 0 2 = nI N) (hN : N ≤ 6) (hp : ∀ j, j < q → PreGo (gosN ν (440 * 1) N j) (440 * 1) N) {Q : Int32 → Mem → Prop} (hQ : AW shM mX7_ahead 45 [some (.ref 0), some (.int (nI q)), some (.int w), some (.int (nI q)), none, none] [] (gosN ν (440 * 1) N q) Q) : ∀ d i : Nat, i + d = q → AW shM mX7_ahead 29 [some (.ref 0), some (.int (nI q)), some (.int w), some (.int (nI i)), none, none] [] (gosN ν (440 * 1) N i) Q := by
  have m0 : shM[0]? = some (7, 18, [none, some 1, none, none, none, none, none, some 2, some 3, none, none, some 4, none, none, some 5, some 6, some 7, some 8]) := rfl
  have m1 : shM[1]? = some (100, 200, []) := rfl
  have m2 : shM[2]? = some (100, 1320, []) := rfl
  have m3 : shM[3]? = some (100, 1760, []) := rfl
  have m4 : shM[4]? = some (100, 4, []) := rfl
  have m5 : shM[5]? = some (100, 6, []) := rfl
  have m6 : shM[6]? = some (100, 6, []) := rfl
  have m7 : shM[7]? = some (100, 6, []) := rfl
  have m8 : shM[8]? = some (100, 6, []) := rfl
  intro d
  induction d with
  | zero =>
    intro i hd
    refine a_iload_n (pc := 29) dX7_ahead_29 rfl rfl ?_
    refine a_iload_n (pc := 30) dX7_ahead_30 rfl rfl ?_
    refine a_icmp_ge (pc := 31) (tgt := 45) dX7_ahead_31 (by decide) (fun c_31 => ?_) (fun c_31 => ?_)
    · have e : i = q := by omega
      subst e
      exact hQ
    · exact absurd (lt_of_not_ge' (a := i) (b := q) (by omega) (by omega) c_31) (by omega)
  | succ d ih =>
    intro i hd
    refine a_iload_n (pc := 29) dX7_ahead_29 rfl rfl ?_
    refine a_iload_n (pc := 30) dX7_ahead_30 rfl rfl ?_
    refine a_icmp_ge (pc := 31) (tgt := 45) dX7_ahead_31 (by decide) (fun c_31 => ?_) (fun c_31 => ?_)
    · exact absurd (le_of_ge' (a := i) (b := q) (by omega) (by omega) c_31) (by omega)
    · refine a_aload_n (pc := 34) dX7_ahead_34 rfl rfl ?_
      refine a_iconst (pc := 35) (v := 1) dX7_ahead_35 (by decide) ?_
      refine a_callV1 (pc := 36) ck_X7_196 ⟨(Nat.le_of_ble_eq_true rfl), (Nat.le_of_ble_eq_true rfl)⟩ (by assumption) (by decide) (Nat.le_of_ble_eq_true rfl) dX7_ahead_36 rfl (c_X7_goes (r := 1) (by omega) (by rw [gosN_x (by omega) (by omega)]; exact h0) hN (hp i (by omega))) ?_
      rintro u rfl
      refine a_iincN (pc := 39) (m := 1) (al' := [some (.ref _), some (.int _), some (.int _), some (.int _), none, none]) dX7_ahead_39 rfl (by decide) rfl rfl ?_
      refine a_goto (pc := 42) (tgt := 29) dX7_ahead_42 (by decide) ?_
      exact ih (i + 1) (by omega)
theorem mxG_no {g : Nat → Int32} {k : Nat} (h : ¬ k = 0) (h2 : ¬ mxG g k < g k) : mxG g k = mxG g (k + 1) := by
  rw [mxG_s (by omega), if_neg h2]
theorem mnG_no {g : Nat → Int32} {k : Nat} (h : ¬ k = 0) (h2 : ¬ g k < mnG g k) : mnG g k = mnG g (k + 1) := by
  rw [mnG_s (by omega), if_neg h2]
set_option maxHeartbeats 4000000 in
set_option maxRecDepth 100000 in
theorem l_X7_most3 {ν : Mem} {N q : Nat} (h0 : ν 0 2 = nI N) (hN : N ≤ 6) {Q : Int32 → Mem → Prop} (hQ : Q (mxG (rtG ν) N) ν) : ∀ d i : Nat, i + d = N → ∀ v5 : Option Value, AW shM mX7_ahead 102 [some (.ref 0), some (.int (nI q)), some (.int 3), some (.int (mxG (rtG ν) i)), some (.int (nI i)), v5] [] ν Q := by
  have m0 : shM[0]? = some (7, 18, [none, some 1, none, none, none, none, none, some 2, some 3, none, none, some 4, none, none, some 5, some 6, some 7, some 8]) := rfl
  have m1 : shM[1]? = some (100, 200, []) := rfl
  have m2 : shM[2]? = some (100, 1320, []) := rfl
  have m3 : shM[3]? = some (100, 1760, []) := rfl
  have m4 : shM[4]? = some (100, 4, []) := rfl
  have m5 : shM[5]? = some (100, 6, []) := rfl
  have m6 : shM[6]? = some (100, 6, []) := rfl
  have m7 : shM[7]? = some (100, 6, []) := rfl
  have m8 : shM[8]? = some (100, 6, []) := rfl
  intro d
  induction d with
  | zero =>
    intro i hd v5
    refine a_iload (pc := 102) dX7_ahead_102 rfl ?_
    refine a_aload_n (pc := 104) dX7_ahead_104 rfl rfl ?_
    refine a_geti (pc := 105) fl_X7_56 (by assumption) (by decide) (by rfl) dX7_ahead_105 ?_
    refine a_top (y := nI N) h0 ?_
    refine a_icmp_ge (pc := 108) (tgt := 178) dX7_ahead_108 (by decide) (fun c_108 => ?_) (fun c_108 => ?_)
    · have e : i = N := by omega
      subst e
      refine a_iload_n (pc := 178) dX7_ahead_178 rfl rfl ?_
      exact a_iret (pc := 179) rfl dX7_ahead_179 hQ
    · exact absurd (lt_of_not_ge' (a := i) (b := N) (by omega) (by omega) c_108) (by omega)
  | succ d ih =>
    intro i hd v5
    refine a_iload (pc := 102) dX7_ahead_102 rfl ?_
    refine a_aload_n (pc := 104) dX7_ahead_104 rfl rfl ?_
    refine a_geti (pc := 105) fl_X7_56 (by assumption) (by decide) (by rfl) dX7_ahead_105 ?_
    refine a_top (y := nI N) h0 ?_
    refine a_icmp_ge (pc := 108) (tgt := 178) dX7_ahead_108 (by decide) (fun c_108 => ?_) (fun c_108 => ?_)
    · exact absurd (le_of_ge' (a := i) (b := N) (by omega) (by omega) c_108) (by omega)
    · refine a_aload_n (pc := 111) dX7_ahead_111 rfl rfl ?_
      refine a_getr (pc := 112) fl_X7_13 (by assumption) (by decide) (by rfl) dX7_ahead_112 ?_
      refine a_iconst (pc := 115) (v := 1) dX7_ahead_115 (by decide) ?_
      refine a_iload (pc := 116) dX7_ahead_116 rfl ?_
      refine a_callS2 (pc := 118) cs_X7_52 ⟨(Nat.le_of_ble_eq_true rfl), (Nat.le_of_ble_eq_true rfl)⟩ (Nat.le_of_ble_eq_true rfl) dX7_ahead_118 rfl (c_X7_at (r := 1)) ?_
      rintro r_ u ⟨rfl, rfl⟩
      refine a_iconst (pc := 121) (v := 5) dX7_ahead_121 (by decide) ?_
      refine a_iaddN (pc := 122) (a := _) (b := 5) rfl rfl dX7_ahead_122 ?_
      refine a_iald (pc := 123)  (by assumption) rfl (by omega) (by decide) dX7_ahead_123 ?_
      refine a_aload_n (pc := 124) dX7_ahead_124 rfl rfl ?_
      refine a_getr (pc := 125) fl_X7_13 (by assumption) (by decide) (by rfl) dX7_ahead_125 ?_
      refine a_iconst (pc := 128) (v := 0) dX7_ahead_128 (by decide) ?_
      refine a_iload (pc := 129) dX7_ahead_129 rfl ?_
      refine a_callS2 (pc := 131) cs_X7_52 ⟨(Nat.le_of_ble_eq_true rfl), (Nat.le_of_ble_eq_true rfl)⟩ (Nat.le_of_ble_eq_true rfl) dX7_ahead_131 rfl (c_X7_at (r := 0)) ?_
      rintro r_ u ⟨rfl, rfl⟩
      refine a_iconst (pc := 134) (v := 5) dX7_ahead_134 (by decide) ?_
      refine a_iaddN (pc := 135) (a := _) (b := 5) rfl rfl dX7_ahead_135 ?_
      refine a_iald (pc := 136)  (by assumption) rfl (by omega) (by decide) dX7_ahead_136 ?_
      refine a_isub (pc := 137) dX7_ahead_137 ?_
      refine a_istore (pc := 138) (al' := [some (.ref _), some (.int _), some (.int _), some (.int _), some (.int _), some (.int _)]) dX7_ahead_138 (by decide) rfl rfl ?_
      refine a_iload (pc := 140) dX7_ahead_140 rfl ?_
      refine a_if_eq (pc := 142) (tgt := 165) dX7_ahead_142 (by decide) (fun c_142 => ?_) (fun c_142 => ?_)
      · refine a_iload (pc := 165) dX7_ahead_165 rfl ?_
        refine a_top (y := mxG (rtG ν) (i + 1)) (by unfold mxG; exact (if_pos (by first | exact Or.inl ((nI_eq (b := 0) (by omega) (by omega)).mp c_142) | exact Or.inr (Int32.not_le.mp c_153))).symm) ?_
        refine a_goto (pc := 167) (tgt := 171) dX7_ahead_167 (by decide) ?_
        refine a_istore_n (pc := 171) (al' := [some (.ref _), some (.int _), some (.int _), some (.int _), some (.int _), some (.int _)]) dX7_ahead_171 rfl (by decide) rfl rfl ?_
        refine a_iincN (pc := 172) (m := 1) (al' := [some (.ref _), some (.int _), some (.int _), some (.int _), some (.int _), some (.int _)]) dX7_ahead_172 rfl (by decide) rfl rfl ?_
        refine a_goto (pc := 175) (tgt := 102) dX7_ahead_175 (by decide) ?_
        exact ih (i + 1) (by omega) _
      · refine a_iload_n (pc := 145) dX7_ahead_145 rfl rfl ?_
        refine a_iconst (pc := 146) (v := 3) dX7_ahead_146 (by decide) ?_
        refine a_icmp_ne (pc := 147) (tgt := 159) dX7_ahead_147 (by decide) (fun c_147 => ?_) (fun c_147 => ?_)
        · exact absurd c_147 (by decide)
        · refine a_iload (pc := 150) dX7_ahead_150 rfl ?_
          refine a_iload_n (pc := 152) dX7_ahead_152 rfl rfl ?_
          refine a_icmp_le (pc := 153) (tgt := 170) dX7_ahead_153 (by decide) (fun c_153 => ?_) (fun c_153 => ?_)
          · refine a_iload_n (pc := 170) dX7_ahead_170 rfl rfl ?_
            refine a_top (y := mxG (rtG ν) (i + 1)) (mxG_no (fun e => c_142 (by rw [e]; rfl)) (Int32.not_lt.mpr c_153)) ?_
            refine a_istore_n (pc := 171) (al' := [some (.ref _), some (.int _), some (.int _), some (.int _), some (.int _), some (.int _)]) dX7_ahead_171 rfl (by decide) rfl rfl ?_
            refine a_iincN (pc := 172) (m := 1) (al' := [some (.ref _), some (.int _), some (.int _), some (.int _), some (.int _), some (.int _)]) dX7_ahead_172 rfl (by decide) rfl rfl ?_
            refine a_goto (pc := 175) (tgt := 102) dX7_ahead_175 (by decide) ?_
            exact ih (i + 1) (by omega) _
          · refine a_goto (pc := 156) (tgt := 165) dX7_ahead_156 (by decide) ?_
            refine a_iload (pc := 165) dX7_ahead_165 rfl ?_
            refine a_top (y := mxG (rtG ν) (i + 1)) (by unfold mxG; exact (if_pos (by first | exact Or.inl ((nI_eq (b := 0) (by omega) (by omega)).mp c_142) | exact Or.inr (Int32.not_le.mp c_153))).symm) ?_
            refine a_goto (pc := 167) (tgt := 171) dX7_ahead_167 (by decide) ?_
            refine a_istore_n (pc := 171) (al' := [some (.ref _), some (.int _), some (.int _), some (.int _), some (.int _), some (.int _)]) dX7_ahead_171 rfl (by decide) rfl rfl ?_
            refine a_iincN (pc := 172) (m := 1) (al' := [some (.ref _), some (.int _), some (.int _), some (.int _), some (.int _), some (.int _)]) dX7_ahead_172 rfl (by decide) rfl rfl ?_
            refine a_goto (pc := 175) (tgt := 102) dX7_ahead_175 (by decide) ?_
            exact ih (i + 1) (by omega) _
set_option maxHeartbeats 4000000 in
set_option maxRecDepth 100000 in
theorem l_X7_most4 {ν : Mem} {N q : Nat} (h0 : ν 0 2 = nI N) (hN : N ≤ 6) {Q : Int32 → Mem → Prop} (hQ : Q (mnG (rtG ν) N) ν) : ∀ d i : Nat, i + d = N → ∀ v5 : Option Value, AW shM mX7_ahead 102 [some (.ref 0), some (.int (nI q)), some (.int 4), some (.int (mnG (rtG ν) i)), some (.int (nI i)), v5] [] ν Q := by
  have m0 : shM[0]? = some (7, 18, [none, some 1, none, none, none, none, none, some 2, some 3, none, none, some 4, none, none, some 5, some 6, some 7, some 8]) := rfl
  have m1 : shM[1]? = some (100, 200, []) := rfl
  have m2 : shM[2]? = some (100, 1320, []) := rfl
  have m3 : shM[3]? = some (100, 1760, []) := rfl
  have m4 : shM[4]? = some (100, 4, []) := rfl
  have m5 : shM[5]? = some (100, 6, []) := rfl
  have m6 : shM[6]? = some (100, 6, []) := rfl
  have m7 : shM[7]? = some (100, 6, []) := rfl
  have m8 : shM[8]? = some (100, 6, []) := rfl
  intro d
  induction d with
  | zero =>
    intro i hd v5
    refine a_iload (pc := 102) dX7_ahead_102 rfl ?_
    refine a_aload_n (pc := 104) dX7_ahead_104 rfl rfl ?_
    refine a_geti (pc := 105) fl_X7_56 (by assumption) (by decide) (by rfl) dX7_ahead_105 ?_
    refine a_top (y := nI N) h0 ?_
    refine a_icmp_ge (pc := 108) (tgt := 178) dX7_ahead_108 (by decide) (fun c_108 => ?_) (fun c_108 => ?_)
    · have e : i = N := by omega
      subst e
      refine a_iload_n (pc := 178) dX7_ahead_178 rfl rfl ?_
      exact a_iret (pc := 179) rfl dX7_ahead_179 hQ
    · exact absurd (lt_of_not_ge' (a := i) (b := N) (by omega) (by omega) c_108) (by omega)
  | succ d ih =>
    intro i hd v5
    refine a_iload (pc := 102) dX7_ahead_102 rfl ?_
    refine a_aload_n (pc := 104) dX7_ahead_104 rfl rfl ?_
    refine a_geti (pc := 105) fl_X7_56 (by assumption) (by decide) (by rfl) dX7_ahead_105 ?_
    refine a_top (y := nI N) h0 ?_
    refine a_icmp_ge (pc := 108) (tgt := 178) dX7_ahead_108 (by decide) (fun c_108 => ?_) (fun c_108 => ?_)
    · exact absurd (le_of_ge' (a := i) (b := N) (by omega) (by omega) c_108) (by omega)
    · refine a_aload_n (pc := 111) dX7_ahead_111 rfl rfl ?_
      refine a_getr (pc := 112) fl_X7_13 (by assumption) (by decide) (by rfl) dX7_ahead_112 ?_
      refine a_iconst (pc := 115) (v := 1) dX7_ahead_115 (by decide) ?_
      refine a_iload (pc := 116) dX7_ahead_116 rfl ?_
      refine a_callS2 (pc := 118) cs_X7_52 ⟨(Nat.le_of_ble_eq_true rfl), (Nat.le_of_ble_eq_true rfl)⟩ (Nat.le_of_ble_eq_true rfl) dX7_ahead_118 rfl (c_X7_at (r := 1)) ?_
      rintro r_ u ⟨rfl, rfl⟩
      refine a_iconst (pc := 121) (v := 5) dX7_ahead_121 (by decide) ?_
      refine a_iaddN (pc := 122) (a := _) (b := 5) rfl rfl dX7_ahead_122 ?_
      refine a_iald (pc := 123)  (by assumption) rfl (by omega) (by decide) dX7_ahead_123 ?_
      refine a_aload_n (pc := 124) dX7_ahead_124 rfl rfl ?_
      refine a_getr (pc := 125) fl_X7_13 (by assumption) (by decide) (by rfl) dX7_ahead_125 ?_
      refine a_iconst (pc := 128) (v := 0) dX7_ahead_128 (by decide) ?_
      refine a_iload (pc := 129) dX7_ahead_129 rfl ?_
      refine a_callS2 (pc := 131) cs_X7_52 ⟨(Nat.le_of_ble_eq_true rfl), (Nat.le_of_ble_eq_true rfl)⟩ (Nat.le_of_ble_eq_true rfl) dX7_ahead_131 rfl (c_X7_at (r := 0)) ?_
      rintro r_ u ⟨rfl, rfl⟩
      refine a_iconst (pc := 134) (v := 5) dX7_ahead_134 (by decide) ?_
      refine a_iaddN (pc := 135) (a := _) (b := 5) rfl rfl dX7_ahead_135 ?_
      refine a_iald (pc := 136)  (by assumption) rfl (by omega) (by decide) dX7_ahead_136 ?_
      refine a_isub (pc := 137) dX7_ahead_137 ?_
      refine a_istore (pc := 138) (al' := [some (.ref _), some (.int _), some (.int _), some (.int _), some (.int _), some (.int _)]) dX7_ahead_138 (by decide) rfl rfl ?_
      refine a_iload (pc := 140) dX7_ahead_140 rfl ?_
      refine a_if_eq (pc := 142) (tgt := 165) dX7_ahead_142 (by decide) (fun c_142 => ?_) (fun c_142 => ?_)
      · refine a_iload (pc := 165) dX7_ahead_165 rfl ?_
        refine a_top (y := mnG (rtG ν) (i + 1)) (by unfold mnG; exact (if_pos (by first | exact Or.inl ((nI_eq (b := 0) (by omega) (by omega)).mp c_142) | exact Or.inr (Int32.not_le.mp c_162))).symm) ?_
        refine a_goto (pc := 167) (tgt := 171) dX7_ahead_167 (by decide) ?_
        refine a_istore_n (pc := 171) (al' := [some (.ref _), some (.int _), some (.int _), some (.int _), some (.int _), some (.int _)]) dX7_ahead_171 rfl (by decide) rfl rfl ?_
        refine a_iincN (pc := 172) (m := 1) (al' := [some (.ref _), some (.int _), some (.int _), some (.int _), some (.int _), some (.int _)]) dX7_ahead_172 rfl (by decide) rfl rfl ?_
        refine a_goto (pc := 175) (tgt := 102) dX7_ahead_175 (by decide) ?_
        exact ih (i + 1) (by omega) _
      · refine a_iload_n (pc := 145) dX7_ahead_145 rfl rfl ?_
        refine a_iconst (pc := 146) (v := 3) dX7_ahead_146 (by decide) ?_
        refine a_icmp_ne (pc := 147) (tgt := 159) dX7_ahead_147 (by decide) (fun c_147 => ?_) (fun c_147 => ?_)
        · refine a_iload (pc := 159) dX7_ahead_159 rfl ?_
          refine a_iload_n (pc := 161) dX7_ahead_161 rfl rfl ?_
          refine a_icmp_ge (pc := 162) (tgt := 170) dX7_ahead_162 (by decide) (fun c_162 => ?_) (fun c_162 => ?_)
          · refine a_iload_n (pc := 170) dX7_ahead_170 rfl rfl ?_
            refine a_top (y := mnG (rtG ν) (i + 1)) (mnG_no (fun e => c_142 (by rw [e]; rfl)) (Int32.not_lt.mpr c_162)) ?_
            refine a_istore_n (pc := 171) (al' := [some (.ref _), some (.int _), some (.int _), some (.int _), some (.int _), some (.int _)]) dX7_ahead_171 rfl (by decide) rfl rfl ?_
            refine a_iincN (pc := 172) (m := 1) (al' := [some (.ref _), some (.int _), some (.int _), some (.int _), some (.int _), some (.int _)]) dX7_ahead_172 rfl (by decide) rfl rfl ?_
            refine a_goto (pc := 175) (tgt := 102) dX7_ahead_175 (by decide) ?_
            exact ih (i + 1) (by omega) _
          · refine a_iload (pc := 165) dX7_ahead_165 rfl ?_
            refine a_top (y := mnG (rtG ν) (i + 1)) (by unfold mnG; exact (if_pos (by first | exact Or.inl ((nI_eq (b := 0) (by omega) (by omega)).mp c_142) | exact Or.inr (Int32.not_le.mp c_162))).symm) ?_
            refine a_goto (pc := 167) (tgt := 171) dX7_ahead_167 (by decide) ?_
            refine a_istore_n (pc := 171) (al' := [some (.ref _), some (.int _), some (.int _), some (.int _), some (.int _), some (.int _)]) dX7_ahead_171 rfl (by decide) rfl rfl ?_
            refine a_iincN (pc := 172) (m := 1) (al' := [some (.ref _), some (.int _), some (.int _), some (.int _), some (.int _), some (.int _)]) dX7_ahead_172 rfl (by decide) rfl rfl ?_
            refine a_goto (pc := 175) (tgt := 102) dX7_ahead_175 (by decide) ?_
            exact ih (i + 1) (by omega) _
        · exact absurd c_147 (by decide)
set_option maxHeartbeats 4000000 in
set_option maxRecDepth 100000 in
theorem c_X7_ahead0 {ν : Mem} {q N : Nat} (hq1 : 1 ≤ q) (hq : q ≤ 99) (h0 : ν 0 2 = nI N) (hN : N ≤ 6) (hp : ∀ j, j < q → PreGo (gosN (upA ν 2 (cpsF (ν 2) 0 1)) (440 * 1) N j) (440 * 1) N) : Con shM mX7_ahead [.ref 0, .int (nI q), .int 0] ν (fun r u => u = gosN (upA ν 2 (cpsF (ν 2) 0 1)) (440 * 1) N q ∧ r = sumF (fun i => u 2 (440 * 1 + 70 * i + 5)) N - sumF (fun i => u 2 (440 * 0 + 70 * i + 5)) N) := by
  have m0 : shM[0]? = some (7, 18, [none, some 1, none, none, none, none, none, some 2, some 3, none, none, some 4, none, none, some 5, some 6, some 7, some 8]) := rfl
  have m1 : shM[1]? = some (100, 200, []) := rfl
  have m2 : shM[2]? = some (100, 1320, []) := rfl
  have m3 : shM[3]? = some (100, 1760, []) := rfl
  have m4 : shM[4]? = some (100, 4, []) := rfl
  have m5 : shM[5]? = some (100, 6, []) := rfl
  have m6 : shM[6]? = some (100, 6, []) := rfl
  have m7 : shM[7]? = some (100, 6, []) := rfl
  have m8 : shM[8]? = some (100, 6, []) := rfl
  refine Con.ofAW (al0 := [some (.ref 0), some (.int (nI q)), some (.int 0), none, none, none]) (by decide) rfl (Nat.le_of_ble_eq_true rfl) rfl ?_
  refine a_iload_n (pc := 0) dX7_ahead_0 rfl rfl ?_
  refine a_iconst (pc := 1) (v := 1) dX7_ahead_1 (by decide) ?_
  refine a_bipush (pc := 2) (v := 99) dX7_ahead_2 (by decide) ?_
  refine a_callS3 (pc := 4) cs_X7_94 ⟨(Nat.le_of_ble_eq_true rfl), (Nat.le_of_ble_eq_true rfl)⟩ (Nat.le_of_ble_eq_true rfl) dX7_ahead_4 rfl c_X7_isIn ?_
  rintro r u ⟨hr, rfl⟩
  have hr1 := isin_y hr (⟨nI_nlt (b := 1) (by omega) (by omega), nI_nlt (a := 99) (by omega) (by omega)⟩)
  subst hr1
  refine a_if_eq (pc := 7) (tgt := 19) dX7_ahead_7 (by decide) (fun c_7 => ?_) (fun c_7 => ?_)
  · exact absurd c_7 (by decide)
  · refine a_iload_n (pc := 10) dX7_ahead_10 rfl rfl ?_
    refine a_iconst (pc := 11) (v := 0) dX7_ahead_11 (by decide) ?_
    refine a_iconst (pc := 12) (v := 5) dX7_ahead_12 (by decide) ?_
    refine a_callS3 (pc := 13) cs_X7_94 ⟨(Nat.le_of_ble_eq_true rfl), (Nat.le_of_ble_eq_true rfl)⟩ (Nat.le_of_ble_eq_true rfl) dX7_ahead_13 rfl c_X7_isIn ?_
    rintro r u ⟨hr, rfl⟩
    have hr1 := isin_y hr (by decide)
    subst hr1
    refine a_if_ne (pc := 16) (tgt := 21) dX7_ahead_16 (by decide) (fun c_16 => ?_) (fun c_16 => ?_)
    · refine a_aload_n (pc := 21) dX7_ahead_21 rfl rfl ?_
      refine a_iconst (pc := 22) (v := 0) dX7_ahead_22 (by decide) ?_
      refine a_iconst (pc := 23) (v := 1) dX7_ahead_23 (by decide) ?_
      refine a_callV2 (pc := 24) ck_X7_71 ⟨(Nat.le_of_ble_eq_true rfl), (Nat.le_of_ble_eq_true rfl)⟩ (by assumption) (by decide) (Nat.le_of_ble_eq_true rfl) dX7_ahead_24 rfl (c_X7_copies (a := 0) (b := 1) (by omega) (by omega) (by omega)) ?_
      rintro u rfl
      refine a_iconst (pc := 27) (v := 0) dX7_ahead_27 (by decide) ?_
      refine a_istore_n (pc := 28) (al' := [some (.ref _), some (.int _), some (.int _), some (.int _), none, none]) dX7_ahead_28 rfl (by decide) rfl rfl ?_
      refine l_X7_ahead (a := 0) hq (by rw [upA_ne (by omega)]; exact h0) hN hp ?_ q 0 (by omega)
      refine a_iload_n (pc := 45) dX7_ahead_45 rfl rfl ?_
      refine a_iconst (pc := 46) (v := 3) dX7_ahead_46 (by decide) ?_
      refine a_icmp_ge (pc := 47) (tgt := 84) dX7_ahead_47 (by decide) (fun c_47 => ?_) (fun c_47 => ?_)
      · exact absurd c_47 (by decide)
      · refine a_iload_n (pc := 50) dX7_ahead_50 rfl rfl ?_
        refine a_if_ne (pc := 51) (tgt := 58) dX7_ahead_51 (by decide) (fun c_51 => ?_) (fun c_51 => ?_)
        · exact absurd c_51 (by decide)
        · refine a_iconst (pc := 54) (v := 5) dX7_ahead_54 (by decide) ?_
          refine a_goto (pc := 55) (tgt := 69) dX7_ahead_55 (by decide) ?_
          refine a_istore_n (pc := 69) (al' := [some (.ref _), some (.int _), some (.int _), some (.int _), none, none]) dX7_ahead_69 rfl (by decide) rfl rfl ?_
          refine a_aload_n (pc := 70) dX7_ahead_70 rfl rfl ?_
          refine a_iconst (pc := 71) (v := 1) dX7_ahead_71 (by decide) ?_
          refine a_iload_n (pc := 72) dX7_ahead_72 rfl rfl ?_
          refine a_callI2 (pc := 73) ck_X7_193 ⟨(Nat.le_of_ble_eq_true rfl), (Nat.le_of_ble_eq_true rfl)⟩ (by assumption) (by decide) (Nat.le_of_ble_eq_true rfl) dX7_ahead_73 rfl (c_X7_all (r := 1) (k := 5) (by omega) (by omega) (by rw [gosN_x (by omega) (by omega), upA_ne (by omega)]; exact h0) hN) ?_
          rintro r u ⟨rfl, rfl⟩
          refine a_aload_n (pc := 76) dX7_ahead_76 rfl rfl ?_
          refine a_iconst (pc := 77) (v := 0) dX7_ahead_77 (by decide) ?_
          refine a_iload_n (pc := 78) dX7_ahead_78 rfl rfl ?_
          refine a_callI2 (pc := 79) ck_X7_193 ⟨(Nat.le_of_ble_eq_true rfl), (Nat.le_of_ble_eq_true rfl)⟩ (by assumption) (by decide) (Nat.le_of_ble_eq_true rfl) dX7_ahead_79 rfl (c_X7_all (r := 0) (k := 5) (by omega) (by omega) (by rw [gosN_x (by omega) (by omega), upA_ne (by omega)]; exact h0) hN) ?_
          rintro r u ⟨rfl, rfl⟩
          refine a_isub (pc := 82) dX7_ahead_82 ?_
          refine a_iret (pc := 83) rfl dX7_ahead_83 ?_
          exact ⟨rfl, rfl⟩
    · exact absurd c_16 (by decide)

set_option maxHeartbeats 4000000 in
set_option maxRecDepth 100000 in
theorem c_X7_ahead1 {ν : Mem} {q N : Nat} (hq1 : 1 ≤ q) (hq : q ≤ 99) (h0 : ν 0 2 = nI N) (hN : N ≤ 6) (hp : ∀ j, j < q → PreGo (gosN (upA ν 2 (cpsF (ν 2) 0 1)) (440 * 1) N j) (440 * 1) N) : Con shM mX7_ahead [.ref 0, .int (nI q), .int 1] ν (fun r u => u = gosN (upA ν 2 (cpsF (ν 2) 0 1)) (440 * 1) N q ∧ r = sumF (fun i => u 2 (440 * 1 + 70 * i + 6)) N - sumF (fun i => u 2 (440 * 0 + 70 * i + 6)) N) := by
  have m0 : shM[0]? = some (7, 18, [none, some 1, none, none, none, none, none, some 2, some 3, none, none, some 4, none, none, some 5, some 6, some 7, some 8]) := rfl
  have m1 : shM[1]? = some (100, 200, []) := rfl
  have m2 : shM[2]? = some (100, 1320, []) := rfl
  have m3 : shM[3]? = some (100, 1760, []) := rfl
  have m4 : shM[4]? = some (100, 4, []) := rfl
  have m5 : shM[5]? = some (100, 6, []) := rfl
  have m6 : shM[6]? = some (100, 6, []) := rfl
  have m7 : shM[7]? = some (100, 6, []) := rfl
  have m8 : shM[8]? = some (100, 6, []) := rfl
  refine Con.ofAW (al0 := [some (.ref 0), some (.int (nI q)), some (.int 1), none, none, none]) (by decide) rfl (Nat.le_of_ble_eq_true rfl) rfl ?_
  refine a_iload_n (pc := 0) dX7_ahead_0 rfl rfl ?_
  refine a_iconst (pc := 1) (v := 1) dX7_ahead_1 (by decide) ?_
  refine a_bipush (pc := 2) (v := 99) dX7_ahead_2 (by decide) ?_
  refine a_callS3 (pc := 4) cs_X7_94 ⟨(Nat.le_of_ble_eq_true rfl), (Nat.le_of_ble_eq_true rfl)⟩ (Nat.le_of_ble_eq_true rfl) dX7_ahead_4 rfl c_X7_isIn ?_
  rintro r u ⟨hr, rfl⟩
  have hr1 := isin_y hr (⟨nI_nlt (b := 1) (by omega) (by omega), nI_nlt (a := 99) (by omega) (by omega)⟩)
  subst hr1
  refine a_if_eq (pc := 7) (tgt := 19) dX7_ahead_7 (by decide) (fun c_7 => ?_) (fun c_7 => ?_)
  · exact absurd c_7 (by decide)
  · refine a_iload_n (pc := 10) dX7_ahead_10 rfl rfl ?_
    refine a_iconst (pc := 11) (v := 0) dX7_ahead_11 (by decide) ?_
    refine a_iconst (pc := 12) (v := 5) dX7_ahead_12 (by decide) ?_
    refine a_callS3 (pc := 13) cs_X7_94 ⟨(Nat.le_of_ble_eq_true rfl), (Nat.le_of_ble_eq_true rfl)⟩ (Nat.le_of_ble_eq_true rfl) dX7_ahead_13 rfl c_X7_isIn ?_
    rintro r u ⟨hr, rfl⟩
    have hr1 := isin_y hr (by decide)
    subst hr1
    refine a_if_ne (pc := 16) (tgt := 21) dX7_ahead_16 (by decide) (fun c_16 => ?_) (fun c_16 => ?_)
    · refine a_aload_n (pc := 21) dX7_ahead_21 rfl rfl ?_
      refine a_iconst (pc := 22) (v := 0) dX7_ahead_22 (by decide) ?_
      refine a_iconst (pc := 23) (v := 1) dX7_ahead_23 (by decide) ?_
      refine a_callV2 (pc := 24) ck_X7_71 ⟨(Nat.le_of_ble_eq_true rfl), (Nat.le_of_ble_eq_true rfl)⟩ (by assumption) (by decide) (Nat.le_of_ble_eq_true rfl) dX7_ahead_24 rfl (c_X7_copies (a := 0) (b := 1) (by omega) (by omega) (by omega)) ?_
      rintro u rfl
      refine a_iconst (pc := 27) (v := 0) dX7_ahead_27 (by decide) ?_
      refine a_istore_n (pc := 28) (al' := [some (.ref _), some (.int _), some (.int _), some (.int _), none, none]) dX7_ahead_28 rfl (by decide) rfl rfl ?_
      refine l_X7_ahead (a := 0) hq (by rw [upA_ne (by omega)]; exact h0) hN hp ?_ q 0 (by omega)
      refine a_iload_n (pc := 45) dX7_ahead_45 rfl rfl ?_
      refine a_iconst (pc := 46) (v := 3) dX7_ahead_46 (by decide) ?_
      refine a_icmp_ge (pc := 47) (tgt := 84) dX7_ahead_47 (by decide) (fun c_47 => ?_) (fun c_47 => ?_)
      · exact absurd c_47 (by decide)
      · refine a_iload_n (pc := 50) dX7_ahead_50 rfl rfl ?_
        refine a_if_ne (pc := 51) (tgt := 58) dX7_ahead_51 (by decide) (fun c_51 => ?_) (fun c_51 => ?_)
        · refine a_iload_n (pc := 58) dX7_ahead_58 rfl rfl ?_
          refine a_iconst (pc := 59) (v := 1) dX7_ahead_59 (by decide) ?_
          refine a_icmp_ne (pc := 60) (tgt := 68) dX7_ahead_60 (by decide) (fun c_60 => ?_) (fun c_60 => ?_)
          · exact absurd c_60 (by decide)
          · refine a_bipush (pc := 63) (v := 6) dX7_ahead_63 (by decide) ?_
            refine a_goto (pc := 65) (tgt := 69) dX7_ahead_65 (by decide) ?_
            refine a_istore_n (pc := 69) (al' := [some (.ref _), some (.int _), some (.int _), some (.int _), none, none]) dX7_ahead_69 rfl (by decide) rfl rfl ?_
            refine a_aload_n (pc := 70) dX7_ahead_70 rfl rfl ?_
            refine a_iconst (pc := 71) (v := 1) dX7_ahead_71 (by decide) ?_
            refine a_iload_n (pc := 72) dX7_ahead_72 rfl rfl ?_
            refine a_callI2 (pc := 73) ck_X7_193 ⟨(Nat.le_of_ble_eq_true rfl), (Nat.le_of_ble_eq_true rfl)⟩ (by assumption) (by decide) (Nat.le_of_ble_eq_true rfl) dX7_ahead_73 rfl (c_X7_all (r := 1) (k := 6) (by omega) (by omega) (by rw [gosN_x (by omega) (by omega), upA_ne (by omega)]; exact h0) hN) ?_
            rintro r u ⟨rfl, rfl⟩
            refine a_aload_n (pc := 76) dX7_ahead_76 rfl rfl ?_
            refine a_iconst (pc := 77) (v := 0) dX7_ahead_77 (by decide) ?_
            refine a_iload_n (pc := 78) dX7_ahead_78 rfl rfl ?_
            refine a_callI2 (pc := 79) ck_X7_193 ⟨(Nat.le_of_ble_eq_true rfl), (Nat.le_of_ble_eq_true rfl)⟩ (by assumption) (by decide) (Nat.le_of_ble_eq_true rfl) dX7_ahead_79 rfl (c_X7_all (r := 0) (k := 6) (by omega) (by omega) (by rw [gosN_x (by omega) (by omega), upA_ne (by omega)]; exact h0) hN) ?_
            rintro r u ⟨rfl, rfl⟩
            refine a_isub (pc := 82) dX7_ahead_82 ?_
            refine a_iret (pc := 83) rfl dX7_ahead_83 ?_
            exact ⟨rfl, rfl⟩
        · exact absurd c_51 (by decide)
    · exact absurd c_16 (by decide)

set_option maxHeartbeats 4000000 in
set_option maxRecDepth 100000 in
theorem c_X7_ahead2 {ν : Mem} {q N : Nat} (hq1 : 1 ≤ q) (hq : q ≤ 99) (h0 : ν 0 2 = nI N) (hN : N ≤ 6) (hp : ∀ j, j < q → PreGo (gosN (upA ν 2 (cpsF (ν 2) 0 1)) (440 * 1) N j) (440 * 1) N) : Con shM mX7_ahead [.ref 0, .int (nI q), .int 2] ν (fun r u => u = gosN (upA ν 2 (cpsF (ν 2) 0 1)) (440 * 1) N q ∧ r = sumF (fun i => u 2 (440 * 1 + 70 * i + 4)) N - sumF (fun i => u 2 (440 * 0 + 70 * i + 4)) N) := by
  have m0 : shM[0]? = some (7, 18, [none, some 1, none, none, none, none, none, some 2, some 3, none, none, some 4, none, none, some 5, some 6, some 7, some 8]) := rfl
  have m1 : shM[1]? = some (100, 200, []) := rfl
  have m2 : shM[2]? = some (100, 1320, []) := rfl
  have m3 : shM[3]? = some (100, 1760, []) := rfl
  have m4 : shM[4]? = some (100, 4, []) := rfl
  have m5 : shM[5]? = some (100, 6, []) := rfl
  have m6 : shM[6]? = some (100, 6, []) := rfl
  have m7 : shM[7]? = some (100, 6, []) := rfl
  have m8 : shM[8]? = some (100, 6, []) := rfl
  refine Con.ofAW (al0 := [some (.ref 0), some (.int (nI q)), some (.int 2), none, none, none]) (by decide) rfl (Nat.le_of_ble_eq_true rfl) rfl ?_
  refine a_iload_n (pc := 0) dX7_ahead_0 rfl rfl ?_
  refine a_iconst (pc := 1) (v := 1) dX7_ahead_1 (by decide) ?_
  refine a_bipush (pc := 2) (v := 99) dX7_ahead_2 (by decide) ?_
  refine a_callS3 (pc := 4) cs_X7_94 ⟨(Nat.le_of_ble_eq_true rfl), (Nat.le_of_ble_eq_true rfl)⟩ (Nat.le_of_ble_eq_true rfl) dX7_ahead_4 rfl c_X7_isIn ?_
  rintro r u ⟨hr, rfl⟩
  have hr1 := isin_y hr (⟨nI_nlt (b := 1) (by omega) (by omega), nI_nlt (a := 99) (by omega) (by omega)⟩)
  subst hr1
  refine a_if_eq (pc := 7) (tgt := 19) dX7_ahead_7 (by decide) (fun c_7 => ?_) (fun c_7 => ?_)
  · exact absurd c_7 (by decide)
  · refine a_iload_n (pc := 10) dX7_ahead_10 rfl rfl ?_
    refine a_iconst (pc := 11) (v := 0) dX7_ahead_11 (by decide) ?_
    refine a_iconst (pc := 12) (v := 5) dX7_ahead_12 (by decide) ?_
    refine a_callS3 (pc := 13) cs_X7_94 ⟨(Nat.le_of_ble_eq_true rfl), (Nat.le_of_ble_eq_true rfl)⟩ (Nat.le_of_ble_eq_true rfl) dX7_ahead_13 rfl c_X7_isIn ?_
    rintro r u ⟨hr, rfl⟩
    have hr1 := isin_y hr (by decide)
    subst hr1
    refine a_if_ne (pc := 16) (tgt := 21) dX7_ahead_16 (by decide) (fun c_16 => ?_) (fun c_16 => ?_)
    · refine a_aload_n (pc := 21) dX7_ahead_21 rfl rfl ?_
      refine a_iconst (pc := 22) (v := 0) dX7_ahead_22 (by decide) ?_
      refine a_iconst (pc := 23) (v := 1) dX7_ahead_23 (by decide) ?_
      refine a_callV2 (pc := 24) ck_X7_71 ⟨(Nat.le_of_ble_eq_true rfl), (Nat.le_of_ble_eq_true rfl)⟩ (by assumption) (by decide) (Nat.le_of_ble_eq_true rfl) dX7_ahead_24 rfl (c_X7_copies (a := 0) (b := 1) (by omega) (by omega) (by omega)) ?_
      rintro u rfl
      refine a_iconst (pc := 27) (v := 0) dX7_ahead_27 (by decide) ?_
      refine a_istore_n (pc := 28) (al' := [some (.ref _), some (.int _), some (.int _), some (.int _), none, none]) dX7_ahead_28 rfl (by decide) rfl rfl ?_
      refine l_X7_ahead (a := 0) hq (by rw [upA_ne (by omega)]; exact h0) hN hp ?_ q 0 (by omega)
      refine a_iload_n (pc := 45) dX7_ahead_45 rfl rfl ?_
      refine a_iconst (pc := 46) (v := 3) dX7_ahead_46 (by decide) ?_
      refine a_icmp_ge (pc := 47) (tgt := 84) dX7_ahead_47 (by decide) (fun c_47 => ?_) (fun c_47 => ?_)
      · exact absurd c_47 (by decide)
      · refine a_iload_n (pc := 50) dX7_ahead_50 rfl rfl ?_
        refine a_if_ne (pc := 51) (tgt := 58) dX7_ahead_51 (by decide) (fun c_51 => ?_) (fun c_51 => ?_)
        · refine a_iload_n (pc := 58) dX7_ahead_58 rfl rfl ?_
          refine a_iconst (pc := 59) (v := 1) dX7_ahead_59 (by decide) ?_
          refine a_icmp_ne (pc := 60) (tgt := 68) dX7_ahead_60 (by decide) (fun c_60 => ?_) (fun c_60 => ?_)
          · refine a_iconst (pc := 68) (v := 4) dX7_ahead_68 (by decide) ?_
            refine a_istore_n (pc := 69) (al' := [some (.ref _), some (.int _), some (.int _), some (.int _), none, none]) dX7_ahead_69 rfl (by decide) rfl rfl ?_
            refine a_aload_n (pc := 70) dX7_ahead_70 rfl rfl ?_
            refine a_iconst (pc := 71) (v := 1) dX7_ahead_71 (by decide) ?_
            refine a_iload_n (pc := 72) dX7_ahead_72 rfl rfl ?_
            refine a_callI2 (pc := 73) ck_X7_193 ⟨(Nat.le_of_ble_eq_true rfl), (Nat.le_of_ble_eq_true rfl)⟩ (by assumption) (by decide) (Nat.le_of_ble_eq_true rfl) dX7_ahead_73 rfl (c_X7_all (r := 1) (k := 4) (by omega) (by omega) (by rw [gosN_x (by omega) (by omega), upA_ne (by omega)]; exact h0) hN) ?_
            rintro r u ⟨rfl, rfl⟩
            refine a_aload_n (pc := 76) dX7_ahead_76 rfl rfl ?_
            refine a_iconst (pc := 77) (v := 0) dX7_ahead_77 (by decide) ?_
            refine a_iload_n (pc := 78) dX7_ahead_78 rfl rfl ?_
            refine a_callI2 (pc := 79) ck_X7_193 ⟨(Nat.le_of_ble_eq_true rfl), (Nat.le_of_ble_eq_true rfl)⟩ (by assumption) (by decide) (Nat.le_of_ble_eq_true rfl) dX7_ahead_79 rfl (c_X7_all (r := 0) (k := 4) (by omega) (by omega) (by rw [gosN_x (by omega) (by omega), upA_ne (by omega)]; exact h0) hN) ?_
            rintro r u ⟨rfl, rfl⟩
            refine a_isub (pc := 82) dX7_ahead_82 ?_
            refine a_iret (pc := 83) rfl dX7_ahead_83 ?_
            exact ⟨rfl, rfl⟩
          · exact absurd c_60 (by decide)
        · exact absurd c_51 (by decide)
    · exact absurd c_16 (by decide)

set_option maxHeartbeats 4000000 in
set_option maxRecDepth 100000 in
theorem c_X7_ahead3 {ν : Mem} {q N : Nat} (hq1 : 1 ≤ q) (hq : q ≤ 99) (h0 : ν 0 2 = nI N) (hN : N ≤ 6) (hp : ∀ j, j < q → PreGo (gosN (upA ν 2 (cpsF (ν 2) 0 1)) (440 * 1) N j) (440 * 1) N) : Con shM mX7_ahead [.ref 0, .int (nI q), .int 3] ν (fun r u => u = gosN (upA ν 2 (cpsF (ν 2) 0 1)) (440 * 1) N q ∧ r = mxG (rtG u) N) := by
  have m0 : shM[0]? = some (7, 18, [none, some 1, none, none, none, none, none, some 2, some 3, none, none, some 4, none, none, some 5, some 6, some 7, some 8]) := rfl
  have m1 : shM[1]? = some (100, 200, []) := rfl
  have m2 : shM[2]? = some (100, 1320, []) := rfl
  have m3 : shM[3]? = some (100, 1760, []) := rfl
  have m4 : shM[4]? = some (100, 4, []) := rfl
  have m5 : shM[5]? = some (100, 6, []) := rfl
  have m6 : shM[6]? = some (100, 6, []) := rfl
  have m7 : shM[7]? = some (100, 6, []) := rfl
  have m8 : shM[8]? = some (100, 6, []) := rfl
  refine Con.ofAW (al0 := [some (.ref 0), some (.int (nI q)), some (.int 3), none, none, none]) (by decide) rfl (Nat.le_of_ble_eq_true rfl) rfl ?_
  refine a_iload_n (pc := 0) dX7_ahead_0 rfl rfl ?_
  refine a_iconst (pc := 1) (v := 1) dX7_ahead_1 (by decide) ?_
  refine a_bipush (pc := 2) (v := 99) dX7_ahead_2 (by decide) ?_
  refine a_callS3 (pc := 4) cs_X7_94 ⟨(Nat.le_of_ble_eq_true rfl), (Nat.le_of_ble_eq_true rfl)⟩ (Nat.le_of_ble_eq_true rfl) dX7_ahead_4 rfl c_X7_isIn ?_
  rintro r u ⟨hr, rfl⟩
  have hr1 := isin_y hr (⟨nI_nlt (b := 1) (by omega) (by omega), nI_nlt (a := 99) (by omega) (by omega)⟩)
  subst hr1
  refine a_if_eq (pc := 7) (tgt := 19) dX7_ahead_7 (by decide) (fun c_7 => ?_) (fun c_7 => ?_)
  · exact absurd c_7 (by decide)
  · refine a_iload_n (pc := 10) dX7_ahead_10 rfl rfl ?_
    refine a_iconst (pc := 11) (v := 0) dX7_ahead_11 (by decide) ?_
    refine a_iconst (pc := 12) (v := 5) dX7_ahead_12 (by decide) ?_
    refine a_callS3 (pc := 13) cs_X7_94 ⟨(Nat.le_of_ble_eq_true rfl), (Nat.le_of_ble_eq_true rfl)⟩ (Nat.le_of_ble_eq_true rfl) dX7_ahead_13 rfl c_X7_isIn ?_
    rintro r u ⟨hr, rfl⟩
    have hr1 := isin_y hr (by decide)
    subst hr1
    refine a_if_ne (pc := 16) (tgt := 21) dX7_ahead_16 (by decide) (fun c_16 => ?_) (fun c_16 => ?_)
    · refine a_aload_n (pc := 21) dX7_ahead_21 rfl rfl ?_
      refine a_iconst (pc := 22) (v := 0) dX7_ahead_22 (by decide) ?_
      refine a_iconst (pc := 23) (v := 1) dX7_ahead_23 (by decide) ?_
      refine a_callV2 (pc := 24) ck_X7_71 ⟨(Nat.le_of_ble_eq_true rfl), (Nat.le_of_ble_eq_true rfl)⟩ (by assumption) (by decide) (Nat.le_of_ble_eq_true rfl) dX7_ahead_24 rfl (c_X7_copies (a := 0) (b := 1) (by omega) (by omega) (by omega)) ?_
      rintro u rfl
      refine a_iconst (pc := 27) (v := 0) dX7_ahead_27 (by decide) ?_
      refine a_istore_n (pc := 28) (al' := [some (.ref _), some (.int _), some (.int _), some (.int _), none, none]) dX7_ahead_28 rfl (by decide) rfl rfl ?_
      refine l_X7_ahead (a := 0) hq (by rw [upA_ne (by omega)]; exact h0) hN hp ?_ q 0 (by omega)
      refine a_iload_n (pc := 45) dX7_ahead_45 rfl rfl ?_
      refine a_iconst (pc := 46) (v := 3) dX7_ahead_46 (by decide) ?_
      refine a_icmp_ge (pc := 47) (tgt := 84) dX7_ahead_47 (by decide) (fun c_47 => ?_) (fun c_47 => ?_)
      · refine a_iload_n (pc := 84) dX7_ahead_84 rfl rfl ?_
        refine a_iconst (pc := 85) (v := 5) dX7_ahead_85 (by decide) ?_
        refine a_icmp_ne (pc := 86) (tgt := 97) dX7_ahead_86 (by decide) (fun c_86 => ?_) (fun c_86 => ?_)
        · refine a_iconst (pc := 97) (v := 0) dX7_ahead_97 (by decide) ?_
          refine a_istore_n (pc := 98) (al' := [some (.ref _), some (.int _), some (.int _), some (.int _), none, none]) dX7_ahead_98 rfl (by decide) rfl rfl ?_
          refine a_iconst (pc := 99) (v := 0) dX7_ahead_99 (by decide) ?_
          refine a_istore (pc := 100) (al' := [some (.ref _), some (.int _), some (.int _), some (.int _), some (.int _), none]) dX7_ahead_100 (by decide) rfl rfl ?_
          exact l_X7_most3 (by rw [gosN_x (by omega) (by omega), upA_ne (by omega)]; exact h0) hN ⟨rfl, rfl⟩ N 0 (by omega) _
        · exact absurd c_86 (by decide)
      · exact absurd c_47 (by decide)
    · exact absurd c_16 (by decide)

set_option maxHeartbeats 4000000 in
set_option maxRecDepth 100000 in
theorem c_X7_ahead4 {ν : Mem} {q N : Nat} (hq1 : 1 ≤ q) (hq : q ≤ 99) (h0 : ν 0 2 = nI N) (hN : N ≤ 6) (hp : ∀ j, j < q → PreGo (gosN (upA ν 2 (cpsF (ν 2) 0 1)) (440 * 1) N j) (440 * 1) N) : Con shM mX7_ahead [.ref 0, .int (nI q), .int 4] ν (fun r u => u = gosN (upA ν 2 (cpsF (ν 2) 0 1)) (440 * 1) N q ∧ r = mnG (rtG u) N) := by
  have m0 : shM[0]? = some (7, 18, [none, some 1, none, none, none, none, none, some 2, some 3, none, none, some 4, none, none, some 5, some 6, some 7, some 8]) := rfl
  have m1 : shM[1]? = some (100, 200, []) := rfl
  have m2 : shM[2]? = some (100, 1320, []) := rfl
  have m3 : shM[3]? = some (100, 1760, []) := rfl
  have m4 : shM[4]? = some (100, 4, []) := rfl
  have m5 : shM[5]? = some (100, 6, []) := rfl
  have m6 : shM[6]? = some (100, 6, []) := rfl
  have m7 : shM[7]? = some (100, 6, []) := rfl
  have m8 : shM[8]? = some (100, 6, []) := rfl
  refine Con.ofAW (al0 := [some (.ref 0), some (.int (nI q)), some (.int 4), none, none, none]) (by decide) rfl (Nat.le_of_ble_eq_true rfl) rfl ?_
  refine a_iload_n (pc := 0) dX7_ahead_0 rfl rfl ?_
  refine a_iconst (pc := 1) (v := 1) dX7_ahead_1 (by decide) ?_
  refine a_bipush (pc := 2) (v := 99) dX7_ahead_2 (by decide) ?_
  refine a_callS3 (pc := 4) cs_X7_94 ⟨(Nat.le_of_ble_eq_true rfl), (Nat.le_of_ble_eq_true rfl)⟩ (Nat.le_of_ble_eq_true rfl) dX7_ahead_4 rfl c_X7_isIn ?_
  rintro r u ⟨hr, rfl⟩
  have hr1 := isin_y hr (⟨nI_nlt (b := 1) (by omega) (by omega), nI_nlt (a := 99) (by omega) (by omega)⟩)
  subst hr1
  refine a_if_eq (pc := 7) (tgt := 19) dX7_ahead_7 (by decide) (fun c_7 => ?_) (fun c_7 => ?_)
  · exact absurd c_7 (by decide)
  · refine a_iload_n (pc := 10) dX7_ahead_10 rfl rfl ?_
    refine a_iconst (pc := 11) (v := 0) dX7_ahead_11 (by decide) ?_
    refine a_iconst (pc := 12) (v := 5) dX7_ahead_12 (by decide) ?_
    refine a_callS3 (pc := 13) cs_X7_94 ⟨(Nat.le_of_ble_eq_true rfl), (Nat.le_of_ble_eq_true rfl)⟩ (Nat.le_of_ble_eq_true rfl) dX7_ahead_13 rfl c_X7_isIn ?_
    rintro r u ⟨hr, rfl⟩
    have hr1 := isin_y hr (by decide)
    subst hr1
    refine a_if_ne (pc := 16) (tgt := 21) dX7_ahead_16 (by decide) (fun c_16 => ?_) (fun c_16 => ?_)
    · refine a_aload_n (pc := 21) dX7_ahead_21 rfl rfl ?_
      refine a_iconst (pc := 22) (v := 0) dX7_ahead_22 (by decide) ?_
      refine a_iconst (pc := 23) (v := 1) dX7_ahead_23 (by decide) ?_
      refine a_callV2 (pc := 24) ck_X7_71 ⟨(Nat.le_of_ble_eq_true rfl), (Nat.le_of_ble_eq_true rfl)⟩ (by assumption) (by decide) (Nat.le_of_ble_eq_true rfl) dX7_ahead_24 rfl (c_X7_copies (a := 0) (b := 1) (by omega) (by omega) (by omega)) ?_
      rintro u rfl
      refine a_iconst (pc := 27) (v := 0) dX7_ahead_27 (by decide) ?_
      refine a_istore_n (pc := 28) (al' := [some (.ref _), some (.int _), some (.int _), some (.int _), none, none]) dX7_ahead_28 rfl (by decide) rfl rfl ?_
      refine l_X7_ahead (a := 0) hq (by rw [upA_ne (by omega)]; exact h0) hN hp ?_ q 0 (by omega)
      refine a_iload_n (pc := 45) dX7_ahead_45 rfl rfl ?_
      refine a_iconst (pc := 46) (v := 3) dX7_ahead_46 (by decide) ?_
      refine a_icmp_ge (pc := 47) (tgt := 84) dX7_ahead_47 (by decide) (fun c_47 => ?_) (fun c_47 => ?_)
      · refine a_iload_n (pc := 84) dX7_ahead_84 rfl rfl ?_
        refine a_iconst (pc := 85) (v := 5) dX7_ahead_85 (by decide) ?_
        refine a_icmp_ne (pc := 86) (tgt := 97) dX7_ahead_86 (by decide) (fun c_86 => ?_) (fun c_86 => ?_)
        · refine a_iconst (pc := 97) (v := 0) dX7_ahead_97 (by decide) ?_
          refine a_istore_n (pc := 98) (al' := [some (.ref _), some (.int _), some (.int _), some (.int _), none, none]) dX7_ahead_98 rfl (by decide) rfl rfl ?_
          refine a_iconst (pc := 99) (v := 0) dX7_ahead_99 (by decide) ?_
          refine a_istore (pc := 100) (al' := [some (.ref _), some (.int _), some (.int _), some (.int _), some (.int _), none]) dX7_ahead_100 (by decide) rfl rfl ?_
          exact l_X7_most4 (by rw [gosN_x (by omega) (by omega), upA_ne (by omega)]; exact h0) hN ⟨rfl, rfl⟩ N 0 (by omega) _
        · exact absurd c_86 (by decide)
      · exact absurd c_47 (by decide)
    · exact absurd c_16 (by decide)

set_option maxHeartbeats 4000000 in
set_option maxRecDepth 100000 in
theorem c_X7_ahead5 {ν : Mem} {q N : Nat} (hq1 : 1 ≤ q) (hq : q ≤ 99) (h0 : ν 0 2 = nI N) (hN : N ≤ 6) (hp : ∀ j, j < q → PreGo (gosN (upA ν 2 (cpsF (ν 2) 0 1)) (440 * 1) N j) (440 * 1) N) : Con shM mX7_ahead [.ref 0, .int (nI q), .int 5] ν (fun r u => u = gosN (upA ν 2 (cpsF (ν 2) 0 1)) (440 * 1) N q ∧ r = sumF (fun i => u 2 (440 * 1 + 70 * i + 8)) N) := by
  have m0 : shM[0]? = some (7, 18, [none, some 1, none, none, none, none, none, some 2, some 3, none, none, some 4, none, none, some 5, some 6, some 7, some 8]) := rfl
  have m1 : shM[1]? = some (100, 200, []) := rfl
  have m2 : shM[2]? = some (100, 1320, []) := rfl
  have m3 : shM[3]? = some (100, 1760, []) := rfl
  have m4 : shM[4]? = some (100, 4, []) := rfl
  have m5 : shM[5]? = some (100, 6, []) := rfl
  have m6 : shM[6]? = some (100, 6, []) := rfl
  have m7 : shM[7]? = some (100, 6, []) := rfl
  have m8 : shM[8]? = some (100, 6, []) := rfl
  refine Con.ofAW (al0 := [some (.ref 0), some (.int (nI q)), some (.int 5), none, none, none]) (by decide) rfl (Nat.le_of_ble_eq_true rfl) rfl ?_
  refine a_iload_n (pc := 0) dX7_ahead_0 rfl rfl ?_
  refine a_iconst (pc := 1) (v := 1) dX7_ahead_1 (by decide) ?_
  refine a_bipush (pc := 2) (v := 99) dX7_ahead_2 (by decide) ?_
  refine a_callS3 (pc := 4) cs_X7_94 ⟨(Nat.le_of_ble_eq_true rfl), (Nat.le_of_ble_eq_true rfl)⟩ (Nat.le_of_ble_eq_true rfl) dX7_ahead_4 rfl c_X7_isIn ?_
  rintro r u ⟨hr, rfl⟩
  have hr1 := isin_y hr (⟨nI_nlt (b := 1) (by omega) (by omega), nI_nlt (a := 99) (by omega) (by omega)⟩)
  subst hr1
  refine a_if_eq (pc := 7) (tgt := 19) dX7_ahead_7 (by decide) (fun c_7 => ?_) (fun c_7 => ?_)
  · exact absurd c_7 (by decide)
  · refine a_iload_n (pc := 10) dX7_ahead_10 rfl rfl ?_
    refine a_iconst (pc := 11) (v := 0) dX7_ahead_11 (by decide) ?_
    refine a_iconst (pc := 12) (v := 5) dX7_ahead_12 (by decide) ?_
    refine a_callS3 (pc := 13) cs_X7_94 ⟨(Nat.le_of_ble_eq_true rfl), (Nat.le_of_ble_eq_true rfl)⟩ (Nat.le_of_ble_eq_true rfl) dX7_ahead_13 rfl c_X7_isIn ?_
    rintro r u ⟨hr, rfl⟩
    have hr1 := isin_y hr (by decide)
    subst hr1
    refine a_if_ne (pc := 16) (tgt := 21) dX7_ahead_16 (by decide) (fun c_16 => ?_) (fun c_16 => ?_)
    · refine a_aload_n (pc := 21) dX7_ahead_21 rfl rfl ?_
      refine a_iconst (pc := 22) (v := 0) dX7_ahead_22 (by decide) ?_
      refine a_iconst (pc := 23) (v := 1) dX7_ahead_23 (by decide) ?_
      refine a_callV2 (pc := 24) ck_X7_71 ⟨(Nat.le_of_ble_eq_true rfl), (Nat.le_of_ble_eq_true rfl)⟩ (by assumption) (by decide) (Nat.le_of_ble_eq_true rfl) dX7_ahead_24 rfl (c_X7_copies (a := 0) (b := 1) (by omega) (by omega) (by omega)) ?_
      rintro u rfl
      refine a_iconst (pc := 27) (v := 0) dX7_ahead_27 (by decide) ?_
      refine a_istore_n (pc := 28) (al' := [some (.ref _), some (.int _), some (.int _), some (.int _), none, none]) dX7_ahead_28 rfl (by decide) rfl rfl ?_
      refine l_X7_ahead (a := 0) hq (by rw [upA_ne (by omega)]; exact h0) hN hp ?_ q 0 (by omega)
      refine a_iload_n (pc := 45) dX7_ahead_45 rfl rfl ?_
      refine a_iconst (pc := 46) (v := 3) dX7_ahead_46 (by decide) ?_
      refine a_icmp_ge (pc := 47) (tgt := 84) dX7_ahead_47 (by decide) (fun c_47 => ?_) (fun c_47 => ?_)
      · refine a_iload_n (pc := 84) dX7_ahead_84 rfl rfl ?_
        refine a_iconst (pc := 85) (v := 5) dX7_ahead_85 (by decide) ?_
        refine a_icmp_ne (pc := 86) (tgt := 97) dX7_ahead_86 (by decide) (fun c_86 => ?_) (fun c_86 => ?_)
        · exact absurd c_86 (by decide)
        · refine a_aload_n (pc := 89) dX7_ahead_89 rfl rfl ?_
          refine a_iconst (pc := 90) (v := 1) dX7_ahead_90 (by decide) ?_
          refine a_bipush (pc := 91) (v := 8) dX7_ahead_91 (by decide) ?_
          refine a_callI2 (pc := 93) ck_X7_193 ⟨(Nat.le_of_ble_eq_true rfl), (Nat.le_of_ble_eq_true rfl)⟩ (by assumption) (by decide) (Nat.le_of_ble_eq_true rfl) dX7_ahead_93 rfl (c_X7_all (r := 1) (k := 8) (by omega) (by omega) (by rw [gosN_x (by omega) (by omega), upA_ne (by omega)]; exact h0) hN) ?_
          rintro r u ⟨rfl, rfl⟩
          refine a_iret (pc := 96) rfl dX7_ahead_96 ?_
          exact ⟨rfl, rfl⟩
      · exact absurd c_47 (by decide)
    · exact absurd c_16 (by decide)

