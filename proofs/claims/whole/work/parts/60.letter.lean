/-! letter -/
set_option maxHeartbeats 4000000 in
set_option maxRecDepth 100000 in
theorem c_X6_letterX {μ : Mem} {N : Nat} {i j k : Int32} (h0 : μ 2 0 = nI N) (hN : N ≤ 6) (h : ¬ ((stnP i N ∧ stnP j N ∧ ¬ i = j) ∧ ¬ k < 1 ∧ ¬ 9 < k)) : Con shC mX6_letter [.ref 0, .int i, .int j, .int k] μ (fun r u => r = -1 ∧ μ = u) := by
  have z0 : shC[0]? = some (6, 8, [some 1, none, some 2, some 53, some 104, some 106, none, none]) := rfl
  have hn := net_2
  obtain ⟨hn0, hn1, hn2, hnS⟩ := id hn
  refine Con.ofAW (al0 := [some (.ref 0), some (.int i), some (.int j), some (.int k), none]) (by decide) rfl (Nat.le_of_ble_eq_true rfl) rfl ?_
  refine a_aload_n (pc := 0) dX6_letter_0 rfl rfl ?_
  refine a_iload_n (pc := 1) dX6_letter_1 rfl rfl ?_
  refine a_iload_n (pc := 2) dX6_letter_2 rfl rfl ?_
  refine a_callI2 (pc := 3) ck_X6_63 ⟨(Nat.le_of_ble_eq_true rfl), (Nat.le_of_ble_eq_true rfl)⟩ (by assumption) (by decide) (Nat.le_of_ble_eq_true rfl) dX6_letter_3 rfl (c_X6_isPair h0 (by omega)) ?_
  rintro r u ⟨hr, rfl⟩
  refine a_if_eq (pc := 6) (tgt := 20) dX6_letter_6 (by decide) (fun c_6 => ?_) (fun c_6 => ?_)
  · refine a_iconst (pc := 20) (v := -1) dX6_letter_20 (by decide) ?_
    refine a_iret (pc := 21) rfl dX6_letter_21 ?_
    exact ⟨rfl, rfl⟩
  · refine a_iload_n (pc := 9) dX6_letter_9 rfl rfl ?_
    refine a_iconst (pc := 10) (v := 1) dX6_letter_10 (by decide) ?_
    refine a_icmp_lt (pc := 11) (tgt := 20) dX6_letter_11 (by decide) (fun c_11 => ?_) (fun c_11 => ?_)
    · refine a_iconst (pc := 20) (v := -1) dX6_letter_20 (by decide) ?_
      refine a_iret (pc := 21) rfl dX6_letter_21 ?_
      exact ⟨rfl, rfl⟩
    · refine a_iload_n (pc := 14) dX6_letter_14 rfl rfl ?_
      refine a_bipush (pc := 15) (v := 9) dX6_letter_15 (by decide) ?_
      refine a_icmp_le (pc := 17) (tgt := 22) dX6_letter_17 (by decide) (fun c_17 => ?_) (fun c_17 => ?_)
      · exfalso
        rw [← Int32.not_lt] at c_17
        simp_all [-Int32.not_lt, -Int32.not_le]
      · refine a_iconst (pc := 20) (v := -1) dX6_letter_20 (by decide) ?_
        refine a_iret (pc := 21) rfl dX6_letter_21 ?_
        exact ⟨rfl, rfl⟩

set_option maxHeartbeats 4000000 in
set_option maxRecDepth 100000 in
theorem c_X7_letterX {ν : Mem} {N : Nat} {i j k : Int32} (h0 : ν 0 2 = nI N) (hN : N ≤ 6) (hN1 : 1 ≤ N) (h : ¬ ((stnP i N ∧ stnP j N ∧ ¬ i = j) ∧ ¬ k < 1 ∧ ¬ 9 < k)) : Con shM mX7_letter [.ref 0, .int i, .int j, .int k] ν (fun r u => r = -1 ∧ ν = u) := by
  have m0 : shM[0]? = some (7, 18, [none, some 1, none, none, none, none, none, some 2, some 3, none, none, some 4, none, none, some 5, some 6, some 7, some 8]) := rfl
  have m1 : shM[1]? = some (100, 200, []) := rfl
  have m2 : shM[2]? = some (100, 1320, []) := rfl
  have m3 : shM[3]? = some (100, 1760, []) := rfl
  have m4 : shM[4]? = some (100, 4, []) := rfl
  have m5 : shM[5]? = some (100, 6, []) := rfl
  have m6 : shM[6]? = some (100, 6, []) := rfl
  have m7 : shM[7]? = some (100, 6, []) := rfl
  have m8 : shM[8]? = some (100, 6, []) := rfl
  refine Con.ofAW (al0 := [some (.ref 0), some (.int i), some (.int j), some (.int k)]) (by decide) rfl (Nat.le_of_ble_eq_true rfl) rfl ?_
  refine a_aload_n (pc := 0) dX7_letter_0 rfl rfl ?_
  refine a_iload_n (pc := 1) dX7_letter_1 rfl rfl ?_
  refine a_iload_n (pc := 2) dX7_letter_2 rfl rfl ?_
  refine a_callI2 (pc := 3) ck_X7_178 ⟨(Nat.le_of_ble_eq_true rfl), (Nat.le_of_ble_eq_true rfl)⟩ (by assumption) (by decide) (Nat.le_of_ble_eq_true rfl) dX7_letter_3 rfl (c_X7_areTwo h0 (by omega) hN1) ?_
  rintro r u ⟨hr, rfl⟩
  refine a_if_eq (pc := 6) (tgt := 19) dX7_letter_6 (by decide) (fun c_6 => ?_) (fun c_6 => ?_)
  · refine a_iconst (pc := 19) (v := -1) dX7_letter_19 (by decide) ?_
    refine a_iret (pc := 20) rfl dX7_letter_20 ?_
    exact ⟨rfl, rfl⟩
  · refine a_iload_n (pc := 9) dX7_letter_9 rfl rfl ?_
    refine a_iconst (pc := 10) (v := 1) dX7_letter_10 (by decide) ?_
    refine a_bipush (pc := 11) (v := 9) dX7_letter_11 (by decide) ?_
    refine a_callS3 (pc := 13) cs_X7_94 ⟨(Nat.le_of_ble_eq_true rfl), (Nat.le_of_ble_eq_true rfl)⟩ (Nat.le_of_ble_eq_true rfl) dX7_letter_13 rfl c_X7_isIn ?_
    rintro r2 u ⟨hr2, rfl⟩
    refine a_if_ne (pc := 16) (tgt := 21) dX7_letter_16 (by decide) (fun c_16 => ?_) (fun c_16 => ?_)
    · exfalso; simp_all [-Int32.not_lt, -Int32.not_le]
    · refine a_iconst (pc := 19) (v := -1) dX7_letter_19 (by decide) ?_
      refine a_iret (pc := 20) rfl dX7_letter_20 ?_
      exact ⟨rfl, rfl⟩

set_option maxHeartbeats 4000000 in
set_option maxRecDepth 100000 in
theorem c_X6_letterD {μ : Mem} {N i j s : Nat} {k : Int32} (h0 : μ 2 0 = nI N) (hN : N ≤ 6) (hi : i < N) (hj : j < N) (hij : i ≠ j) (hk : ¬ k < 1 ∧ ¬ 9 < k) (hs : ¬ bitF (μ (stA 2 i) 0) (nI j)) : Con shC mX6_letter [.ref 0, .int (nI i), .int (nI j), .int k] μ (fun r u => r = -2 ∧ μ = u) := by
  have z0 : shC[0]? = some (6, 8, [some 1, none, some 2, some 53, some 104, some 106, none, none]) := rfl
  have hn := net_2
  obtain ⟨hn0, hn1, hn2, hnS⟩ := id hn
  have wi := hnS i (by omega)
  have w0 := wi.1
  have w1 := wi.2.1.1
  have wj := hnS j (by omega)
  have v0 := wj.1
  have v1 := wj.2.1.1
  refine Con.ofAW (al0 := [some (.ref 0), some (.int (nI i)), some (.int (nI j)), some (.int k), none]) (by decide) rfl (Nat.le_of_ble_eq_true rfl) rfl ?_
  refine a_aload_n (pc := 0) dX6_letter_0 rfl rfl ?_
  refine a_iload_n (pc := 1) dX6_letter_1 rfl rfl ?_
  refine a_iload_n (pc := 2) dX6_letter_2 rfl rfl ?_
  refine a_callI2 (pc := 3) ck_X6_63 ⟨(Nat.le_of_ble_eq_true rfl), (Nat.le_of_ble_eq_true rfl)⟩ (by assumption) (by decide) (Nat.le_of_ble_eq_true rfl) dX6_letter_3 rfl (c_X6_isPair h0 (by omega)) ?_
  rintro r u ⟨hr, rfl⟩
  have hr1 : r = 1 := by
    rcases hr with q | q
    · exact q.1
    · exact absurd ⟨⟨i, hi, rfl⟩, ⟨j, hj, rfl⟩, nI_ne (by omega) (by omega) hij⟩ q.2
  subst hr1
  refine a_if_eq (pc := 6) (tgt := 20) dX6_letter_6 (by decide) (fun c_6 => ?_) (fun c_6 => ?_)
  · exact absurd c_6 (by decide)
  · refine a_iload_n (pc := 9) dX6_letter_9 rfl rfl ?_
    refine a_iconst (pc := 10) (v := 1) dX6_letter_10 (by decide) ?_
    refine a_icmp_lt (pc := 11) (tgt := 20) dX6_letter_11 (by decide) (fun c_11 => ?_) (fun c_11 => ?_)
    · exact absurd c_11 hk.1
    · refine a_iload_n (pc := 14) dX6_letter_14 rfl rfl ?_
      refine a_bipush (pc := 15) (v := 9) dX6_letter_15 (by decide) ?_
      refine a_icmp_le (pc := 17) (tgt := 22) dX6_letter_17 (by decide) (fun c_17 => ?_) (fun c_17 => ?_)
      · refine a_aload_n (pc := 22) dX6_letter_22 rfl rfl ?_
        refine a_getr (pc := 23) fl_X6_16 (by assumption) (by decide) (by rfl) dX6_letter_23 ?_
        refine a_iload_n (pc := 26) dX6_letter_26 rfl rfl ?_
        refine a_iload_n (pc := 27) dX6_letter_27 rfl rfl ?_
        refine a_callI2 (pc := 28) ck_X6_67 ⟨(Nat.le_of_ble_eq_true rfl), (Nat.le_of_ble_eq_true rfl)⟩ (by assumption) (by decide) (Nat.le_of_ble_eq_true rfl) dX6_letter_28 rfl (c_X2_hears net_2 (by omega)) ?_
        rintro r u ⟨hr, rfl⟩
        have hr2 : r = 0 := by
          rcases hr with q | q
          · first | exact q.1 | exact absurd q.2 hs
          · first | exact q.1 | exact absurd hs q.2
        subst hr2
        refine a_if_ne (pc := 31) (tgt := 37) dX6_letter_31 (by decide) (fun c_31 => ?_) (fun c_31 => ?_)
        · exact absurd c_31 (by decide)
        · refine a_bipush (pc := 34) (v := -2) dX6_letter_34 (by decide) ?_
          refine a_iret (pc := 36) rfl dX6_letter_36 ?_
          exact ⟨rfl, rfl⟩
      · exact absurd (Int32.not_lt.mp hk.2) c_17

set_option maxHeartbeats 4000000 in
set_option maxRecDepth 100000 in
theorem c_X7_letterD {ν : Mem} {N i j s : Nat} {k : Int32} (h0 : ν 0 2 = nI N) (hN : N ≤ 6) (hi : i < N) (hj : j < N) (hij : i ≠ j) (hk : ¬ k < 1 ∧ ¬ 9 < k) (hs : ¬ bitF (ν 2 (420 + i)) (nI j)) : Con shM mX7_letter [.ref 0, .int (nI i), .int (nI j), .int k] ν (fun r u => r = -2 ∧ ν = u) := by
  have m0 : shM[0]? = some (7, 18, [none, some 1, none, none, none, none, none, some 2, some 3, none, none, some 4, none, none, some 5, some 6, some 7, some 8]) := rfl
  have m1 : shM[1]? = some (100, 200, []) := rfl
  have m2 : shM[2]? = some (100, 1320, []) := rfl
  have m3 : shM[3]? = some (100, 1760, []) := rfl
  have m4 : shM[4]? = some (100, 4, []) := rfl
  have m5 : shM[5]? = some (100, 6, []) := rfl
  have m6 : shM[6]? = some (100, 6, []) := rfl
  have m7 : shM[7]? = some (100, 6, []) := rfl
  have m8 : shM[8]? = some (100, 6, []) := rfl
  refine Con.ofAW (al0 := [some (.ref 0), some (.int (nI i)), some (.int (nI j)), some (.int k)]) (by decide) rfl (Nat.le_of_ble_eq_true rfl) rfl ?_
  refine a_aload_n (pc := 0) dX7_letter_0 rfl rfl ?_
  refine a_iload_n (pc := 1) dX7_letter_1 rfl rfl ?_
  refine a_iload_n (pc := 2) dX7_letter_2 rfl rfl ?_
  refine a_callI2 (pc := 3) ck_X7_178 ⟨(Nat.le_of_ble_eq_true rfl), (Nat.le_of_ble_eq_true rfl)⟩ (by assumption) (by decide) (Nat.le_of_ble_eq_true rfl) dX7_letter_3 rfl (c_X7_areTwo h0 (by omega) (by omega)) ?_
  rintro r u ⟨hr, rfl⟩
  have hr1 : r = 1 := by
    rcases hr with q | q
    · exact q.1
    · exact absurd ⟨⟨i, hi, rfl⟩, ⟨j, hj, rfl⟩, nI_ne (by omega) (by omega) hij⟩ q.2
  subst hr1
  refine a_if_eq (pc := 6) (tgt := 19) dX7_letter_6 (by decide) (fun c_6 => ?_) (fun c_6 => ?_)
  · exact absurd c_6 (by decide)
  · refine a_iload_n (pc := 9) dX7_letter_9 rfl rfl ?_
    refine a_iconst (pc := 10) (v := 1) dX7_letter_10 (by decide) ?_
    refine a_bipush (pc := 11) (v := 9) dX7_letter_11 (by decide) ?_
    refine a_callS3 (pc := 13) cs_X7_94 ⟨(Nat.le_of_ble_eq_true rfl), (Nat.le_of_ble_eq_true rfl)⟩ (Nat.le_of_ble_eq_true rfl) dX7_letter_13 rfl c_X7_isIn ?_
    rintro r u ⟨hr, rfl⟩
    have hr1 := isin_y hr (hk)
    subst hr1
    refine a_if_ne (pc := 16) (tgt := 21) dX7_letter_16 (by decide) (fun c_16 => ?_) (fun c_16 => ?_)
    · refine a_aload_n (pc := 21) dX7_letter_21 rfl rfl ?_
      refine a_getr (pc := 22) fl_X7_13 (by assumption) (by decide) (by rfl) dX7_letter_22 ?_
      refine a_sipush (pc := 25) (v := 420) dX7_letter_25 (by decide) ?_
      refine a_iload_n (pc := 28) dX7_letter_28 rfl rfl ?_
      refine a_iaddN (pc := 29) (a := 420) (b := _) rfl rfl dX7_letter_29 ?_
      refine a_iald (pc := 30)  (by assumption) rfl (by omega) (by decide) dX7_letter_30 ?_
      refine a_iload_n (pc := 31) dX7_letter_31 rfl rfl ?_
      refine a_callS2 (pc := 32) cs_X7_105 ⟨(Nat.le_of_ble_eq_true rfl), (Nat.le_of_ble_eq_true rfl)⟩ (Nat.le_of_ble_eq_true rfl) dX7_letter_32 rfl c_X7_has ?_
      rintro r u ⟨hr, rfl⟩
      have hr2 : r = 0 := by
        rcases hr with q | q
        · first | exact q.1 | exact absurd q.2 hs
        · first | exact q.1 | exact absurd hs q.2
      subst hr2
      refine a_if_ne (pc := 35) (tgt := 41) dX7_letter_35 (by decide) (fun c_35 => ?_) (fun c_35 => ?_)
      · exact absurd c_35 (by decide)
      · refine a_bipush (pc := 38) (v := -2) dX7_letter_38 (by decide) ?_
        refine a_iret (pc := 40) rfl dX7_letter_40 ?_
        exact ⟨rfl, rfl⟩
    · exact absurd c_16 (by decide)

set_option maxHeartbeats 4000000 in
set_option maxRecDepth 100000 in
theorem c_X6_letterF {μ : Mem} {N i j s : Nat} {k : Int32} (h0 : μ 2 0 = nI N) (hN : N ≤ 6) (hi : i < N) (hj : j < N) (hij : i ≠ j) (hk : ¬ k < 1 ∧ ¬ 9 < k) (hs : bitF (μ (stA 2 i) 0) (nI j)) (h6 : μ (stA 2 i + 1) 0 = nI 6) : Con shC mX6_letter [.ref 0, .int (nI i), .int (nI j), .int k] μ (fun r u => r = -3 ∧ μ = u) := by
  have z0 : shC[0]? = some (6, 8, [some 1, none, some 2, some 53, some 104, some 106, none, none]) := rfl
  have hn := net_2
  obtain ⟨hn0, hn1, hn2, hnS⟩ := id hn
  have wi := hnS i (by omega)
  have w0 := wi.1
  have w1 := wi.2.1.1
  have wj := hnS j (by omega)
  have v0 := wj.1
  have v1 := wj.2.1.1
  refine Con.ofAW (al0 := [some (.ref 0), some (.int (nI i)), some (.int (nI j)), some (.int k), none]) (by decide) rfl (Nat.le_of_ble_eq_true rfl) rfl ?_
  refine a_aload_n (pc := 0) dX6_letter_0 rfl rfl ?_
  refine a_iload_n (pc := 1) dX6_letter_1 rfl rfl ?_
  refine a_iload_n (pc := 2) dX6_letter_2 rfl rfl ?_
  refine a_callI2 (pc := 3) ck_X6_63 ⟨(Nat.le_of_ble_eq_true rfl), (Nat.le_of_ble_eq_true rfl)⟩ (by assumption) (by decide) (Nat.le_of_ble_eq_true rfl) dX6_letter_3 rfl (c_X6_isPair h0 (by omega)) ?_
  rintro r u ⟨hr, rfl⟩
  have hr1 : r = 1 := by
    rcases hr with q | q
    · exact q.1
    · exact absurd ⟨⟨i, hi, rfl⟩, ⟨j, hj, rfl⟩, nI_ne (by omega) (by omega) hij⟩ q.2
  subst hr1
  refine a_if_eq (pc := 6) (tgt := 20) dX6_letter_6 (by decide) (fun c_6 => ?_) (fun c_6 => ?_)
  · exact absurd c_6 (by decide)
  · refine a_iload_n (pc := 9) dX6_letter_9 rfl rfl ?_
    refine a_iconst (pc := 10) (v := 1) dX6_letter_10 (by decide) ?_
    refine a_icmp_lt (pc := 11) (tgt := 20) dX6_letter_11 (by decide) (fun c_11 => ?_) (fun c_11 => ?_)
    · exact absurd c_11 hk.1
    · refine a_iload_n (pc := 14) dX6_letter_14 rfl rfl ?_
      refine a_bipush (pc := 15) (v := 9) dX6_letter_15 (by decide) ?_
      refine a_icmp_le (pc := 17) (tgt := 22) dX6_letter_17 (by decide) (fun c_17 => ?_) (fun c_17 => ?_)
      · refine a_aload_n (pc := 22) dX6_letter_22 rfl rfl ?_
        refine a_getr (pc := 23) fl_X6_16 (by assumption) (by decide) (by rfl) dX6_letter_23 ?_
        refine a_iload_n (pc := 26) dX6_letter_26 rfl rfl ?_
        refine a_iload_n (pc := 27) dX6_letter_27 rfl rfl ?_
        refine a_callI2 (pc := 28) ck_X6_67 ⟨(Nat.le_of_ble_eq_true rfl), (Nat.le_of_ble_eq_true rfl)⟩ (by assumption) (by decide) (Nat.le_of_ble_eq_true rfl) dX6_letter_28 rfl (c_X2_hears net_2 (by omega)) ?_
        rintro r u ⟨hr, rfl⟩
        have hr2 : r = 1 := by
          rcases hr with q | q
          · first | exact q.1 | exact absurd q.2 hs
          · first | exact q.1 | exact absurd hs q.2
        subst hr2
        refine a_if_ne (pc := 31) (tgt := 37) dX6_letter_31 (by decide) (fun c_31 => ?_) (fun c_31 => ?_)
        · refine a_aload_n (pc := 37) dX6_letter_37 rfl rfl ?_
          refine a_getr (pc := 38) fl_X6_16 (by assumption) (by decide) (by rfl) dX6_letter_38 ?_
          refine a_getr (pc := 41) fl_X6_70 (by assumption) (by decide) (by rfl) dX6_letter_41 ?_
          refine a_iload_n (pc := 44) dX6_letter_44 rfl rfl ?_
          refine a_aald2 (pc := 45)  (by assumption) rfl (by omega) (by decide) (all_at (by omega)) dX6_letter_45 ?_
          refine a_astore (pc := 46) (al' := [some (.ref _), some (.int _), some (.int _), some (.int _), some (.ref _)]) dX6_letter_46 (by decide) rfl rfl ?_
          refine a_aload (pc := 48) dX6_letter_48 rfl ?_
          refine a_getr (pc := 50) fl_X6_74 (by assumption) (by decide) (by rfl) dX6_letter_50 ?_
          refine a_geti (pc := 53) fl_X6_80 (by assumption) (by decide) (by rfl) dX6_letter_53 ?_
          refine a_top (y := nI 6) h6 ?_
          refine a_bipush (pc := 56) (v := 6) dX6_letter_56 (by decide) ?_
          refine a_icmp_lt (pc := 58) (tgt := 64) dX6_letter_58 (by decide) (fun c_58 => ?_) (fun c_58 => ?_)
          · exact absurd c_58 (by decide)
          · refine a_bipush (pc := 61) (v := -3) dX6_letter_61 (by decide) ?_
            refine a_iret (pc := 63) rfl dX6_letter_63 ?_
            exact ⟨rfl, rfl⟩
        · exact absurd c_31 (by decide)
      · exact absurd (Int32.not_lt.mp hk.2) c_17

set_option maxHeartbeats 4000000 in
set_option maxRecDepth 100000 in
theorem c_X7_letterF {ν : Mem} {N i j s : Nat} {k : Int32} (h0 : ν 0 2 = nI N) (hN : N ≤ 6) (hi : i < N) (hj : j < N) (hij : i ≠ j) (hk : ¬ k < 1 ∧ ¬ 9 < k) (hs : bitF (ν 2 (420 + i)) (nI j)) (h6 : ν 2 (440 * 0 + 70 * i + 8) = nI 6) : Con shM mX7_letter [.ref 0, .int (nI i), .int (nI j), .int k] ν (fun r u => r = -3 ∧ ν = u) := by
  have m0 : shM[0]? = some (7, 18, [none, some 1, none, none, none, none, none, some 2, some 3, none, none, some 4, none, none, some 5, some 6, some 7, some 8]) := rfl
  have m1 : shM[1]? = some (100, 200, []) := rfl
  have m2 : shM[2]? = some (100, 1320, []) := rfl
  have m3 : shM[3]? = some (100, 1760, []) := rfl
  have m4 : shM[4]? = some (100, 4, []) := rfl
  have m5 : shM[5]? = some (100, 6, []) := rfl
  have m6 : shM[6]? = some (100, 6, []) := rfl
  have m7 : shM[7]? = some (100, 6, []) := rfl
  have m8 : shM[8]? = some (100, 6, []) := rfl
  refine Con.ofAW (al0 := [some (.ref 0), some (.int (nI i)), some (.int (nI j)), some (.int k)]) (by decide) rfl (Nat.le_of_ble_eq_true rfl) rfl ?_
  refine a_aload_n (pc := 0) dX7_letter_0 rfl rfl ?_
  refine a_iload_n (pc := 1) dX7_letter_1 rfl rfl ?_
  refine a_iload_n (pc := 2) dX7_letter_2 rfl rfl ?_
  refine a_callI2 (pc := 3) ck_X7_178 ⟨(Nat.le_of_ble_eq_true rfl), (Nat.le_of_ble_eq_true rfl)⟩ (by assumption) (by decide) (Nat.le_of_ble_eq_true rfl) dX7_letter_3 rfl (c_X7_areTwo h0 (by omega) (by omega)) ?_
  rintro r u ⟨hr, rfl⟩
  have hr1 : r = 1 := by
    rcases hr with q | q
    · exact q.1
    · exact absurd ⟨⟨i, hi, rfl⟩, ⟨j, hj, rfl⟩, nI_ne (by omega) (by omega) hij⟩ q.2
  subst hr1
  refine a_if_eq (pc := 6) (tgt := 19) dX7_letter_6 (by decide) (fun c_6 => ?_) (fun c_6 => ?_)
  · exact absurd c_6 (by decide)
  · refine a_iload_n (pc := 9) dX7_letter_9 rfl rfl ?_
    refine a_iconst (pc := 10) (v := 1) dX7_letter_10 (by decide) ?_
    refine a_bipush (pc := 11) (v := 9) dX7_letter_11 (by decide) ?_
    refine a_callS3 (pc := 13) cs_X7_94 ⟨(Nat.le_of_ble_eq_true rfl), (Nat.le_of_ble_eq_true rfl)⟩ (Nat.le_of_ble_eq_true rfl) dX7_letter_13 rfl c_X7_isIn ?_
    rintro r u ⟨hr, rfl⟩
    have hr1 := isin_y hr (hk)
    subst hr1
    refine a_if_ne (pc := 16) (tgt := 21) dX7_letter_16 (by decide) (fun c_16 => ?_) (fun c_16 => ?_)
    · refine a_aload_n (pc := 21) dX7_letter_21 rfl rfl ?_
      refine a_getr (pc := 22) fl_X7_13 (by assumption) (by decide) (by rfl) dX7_letter_22 ?_
      refine a_sipush (pc := 25) (v := 420) dX7_letter_25 (by decide) ?_
      refine a_iload_n (pc := 28) dX7_letter_28 rfl rfl ?_
      refine a_iaddN (pc := 29) (a := 420) (b := _) rfl rfl dX7_letter_29 ?_
      refine a_iald (pc := 30)  (by assumption) rfl (by omega) (by decide) dX7_letter_30 ?_
      refine a_iload_n (pc := 31) dX7_letter_31 rfl rfl ?_
      refine a_callS2 (pc := 32) cs_X7_105 ⟨(Nat.le_of_ble_eq_true rfl), (Nat.le_of_ble_eq_true rfl)⟩ (Nat.le_of_ble_eq_true rfl) dX7_letter_32 rfl c_X7_has ?_
      rintro r u ⟨hr, rfl⟩
      have hr2 : r = 1 := by
        rcases hr with q | q
        · first | exact q.1 | exact absurd q.2 hs
        · first | exact q.1 | exact absurd hs q.2
      subst hr2
      refine a_if_ne (pc := 35) (tgt := 41) dX7_letter_35 (by decide) (fun c_35 => ?_) (fun c_35 => ?_)
      · refine a_aload_n (pc := 41) dX7_letter_41 rfl rfl ?_
        refine a_getr (pc := 42) fl_X7_13 (by assumption) (by decide) (by rfl) dX7_letter_42 ?_
        refine a_iconst (pc := 45) (v := 0) dX7_letter_45 (by decide) ?_
        refine a_iload_n (pc := 46) dX7_letter_46 rfl rfl ?_
        refine a_callS2 (pc := 47) cs_X7_52 ⟨(Nat.le_of_ble_eq_true rfl), (Nat.le_of_ble_eq_true rfl)⟩ (Nat.le_of_ble_eq_true rfl) dX7_letter_47 rfl (c_X7_at (r := 0)) ?_
        rintro r_ u ⟨rfl, rfl⟩
        refine a_bipush (pc := 50) (v := 8) dX7_letter_50 (by decide) ?_
        refine a_iaddN (pc := 52) (a := _) (b := 8) rfl rfl dX7_letter_52 ?_
        refine a_iald (pc := 53)  (by assumption) rfl (by omega) (by decide) dX7_letter_53 ?_
        refine a_top (y := nI 6) h6 ?_
        refine a_bipush (pc := 54) (v := 6) dX7_letter_54 (by decide) ?_
        refine a_icmp_ne (pc := 56) (tgt := 62) dX7_letter_56 (by decide) (fun c_56 => ?_) (fun c_56 => ?_)
        · exact absurd c_56 (by decide)
        · refine a_bipush (pc := 59) (v := -3) dX7_letter_59 (by decide) ?_
          refine a_iret (pc := 61) rfl dX7_letter_61 ?_
          exact ⟨rfl, rfl⟩
      · exact absurd c_35 (by decide)
    · exact absurd c_16 (by decide)

def adsF (ν : Mem) (r i s : Nat) (t l : Int32) : Mem := up2 (up2 (up2 ν 2 (440 * r + 70 * i + 9 + 2 * s) t) 2 (440 * r + 70 * i + 9 + 2 * s + 1) l) 2 (440 * r + 70 * i + 8) (nI (s + 1))
set_option maxHeartbeats 4000000 in
set_option maxRecDepth 100000 in
theorem c_X7_adds {ν : Mem} {r i s : Nat} {t l : Int32} (hr : r < 3) (hi : i < 6) (hs : ν 2 (440 * r + 70 * i + 8) = nI s) (hl : s < 6) : Con shM mX7_adds [.ref 0, .int (nI r), .int (nI i), .int t, .int l] ν (fun _ u => u = adsF ν r i s t l) := by
  have m0 : shM[0]? = some (7, 18, [none, some 1, none, none, none, none, none, some 2, some 3, none, none, some 4, none, none, some 5, some 6, some 7, some 8]) := rfl
  have m1 : shM[1]? = some (100, 200, []) := rfl
  have m2 : shM[2]? = some (100, 1320, []) := rfl
  have m3 : shM[3]? = some (100, 1760, []) := rfl
  have m4 : shM[4]? = some (100, 4, []) := rfl
  have m5 : shM[5]? = some (100, 6, []) := rfl
  have m6 : shM[6]? = some (100, 6, []) := rfl
  have m7 : shM[7]? = some (100, 6, []) := rfl
  have m8 : shM[8]? = some (100, 6, []) := rfl
  refine Con.ofAW (al0 := [some (.ref 0), some (.int (nI r)), some (.int (nI i)), some (.int t), some (.int l), none, none]) (by decide) rfl (Nat.le_of_ble_eq_true rfl) rfl ?_
  refine a_iload_n (pc := 0) dX7_adds_0 rfl rfl ?_
  refine a_iload_n (pc := 1) dX7_adds_1 rfl rfl ?_
  refine a_callS2 (pc := 2) cs_X7_52 ⟨(Nat.le_of_ble_eq_true rfl), (Nat.le_of_ble_eq_true rfl)⟩ (Nat.le_of_ble_eq_true rfl) dX7_adds_2 rfl c_X7_at ?_
  rintro r_ u ⟨rfl, rfl⟩
  refine a_istore (pc := 5) (al' := [some (.ref _), some (.int _), some (.int _), some (.int _), some (.int _), some (.int _), none]) dX7_adds_5 (by decide) rfl rfl ?_
  refine a_aload_n (pc := 7) dX7_adds_7 rfl rfl ?_
  refine a_getr (pc := 8) fl_X7_13 (by assumption) (by decide) (by rfl) dX7_adds_8 ?_
  refine a_iload (pc := 11) dX7_adds_11 rfl ?_
  refine a_bipush (pc := 13) (v := 8) dX7_adds_13 (by decide) ?_
  refine a_iaddN (pc := 15) (a := _) (b := 8) rfl rfl dX7_adds_15 ?_
  refine a_iald (pc := 16)  (by assumption) rfl (by omega) (by decide) dX7_adds_16 ?_
  refine a_top (y := nI s) hs ?_
  refine a_istore (pc := 17) (al' := [some (.ref _), some (.int _), some (.int _), some (.int _), some (.int _), some (.int _), some (.int _)]) dX7_adds_17 (by decide) rfl rfl ?_
  refine a_aload_n (pc := 19) dX7_adds_19 rfl rfl ?_
  refine a_getr (pc := 20) fl_X7_13 (by assumption) (by decide) (by rfl) dX7_adds_20 ?_
  refine a_iload (pc := 23) dX7_adds_23 rfl ?_
  refine a_bipush (pc := 25) (v := 9) dX7_adds_25 (by decide) ?_
  refine a_iaddN (pc := 27) (a := _) (b := 9) rfl rfl dX7_adds_27 ?_
  refine a_iconst (pc := 28) (v := 2) dX7_adds_28 (by decide) ?_
  refine a_iload (pc := 29) dX7_adds_29 rfl ?_
  refine a_imulN (pc := 31) (a := 2) (b := _) rfl rfl dX7_adds_31 ?_
  refine a_iaddN (pc := 32) (a := _) (b := _) rfl rfl dX7_adds_32 ?_
  refine a_iload_n (pc := 33) dX7_adds_33 rfl rfl ?_
  refine a_iast (pc := 34)  (by assumption) rfl (by omega) (by decide) dX7_adds_34 ?_
  refine a_aload_n (pc := 35) dX7_adds_35 rfl rfl ?_
  refine a_getr (pc := 36) fl_X7_13 (by assumption) (by decide) (by rfl) dX7_adds_36 ?_
  refine a_iload (pc := 39) dX7_adds_39 rfl ?_
  refine a_bipush (pc := 41) (v := 9) dX7_adds_41 (by decide) ?_
  refine a_iaddN (pc := 43) (a := _) (b := 9) rfl rfl dX7_adds_43 ?_
  refine a_iconst (pc := 44) (v := 2) dX7_adds_44 (by decide) ?_
  refine a_iload (pc := 45) dX7_adds_45 rfl ?_
  refine a_imulN (pc := 47) (a := 2) (b := _) rfl rfl dX7_adds_47 ?_
  refine a_iaddN (pc := 48) (a := _) (b := _) rfl rfl dX7_adds_48 ?_
  refine a_iconst (pc := 49) (v := 1) dX7_adds_49 (by decide) ?_
  refine a_iaddN (pc := 50) (a := _) (b := 1) rfl rfl dX7_adds_50 ?_
  refine a_iload (pc := 51) dX7_adds_51 rfl ?_
  refine a_iast (pc := 53)  (by assumption) rfl (by omega) (by decide) dX7_adds_53 ?_
  refine a_aload_n (pc := 54) dX7_adds_54 rfl rfl ?_
  refine a_getr (pc := 55) fl_X7_13 (by assumption) (by decide) (by rfl) dX7_adds_55 ?_
  refine a_iload (pc := 58) dX7_adds_58 rfl ?_
  refine a_bipush (pc := 60) (v := 8) dX7_adds_60 (by decide) ?_
  refine a_iaddN (pc := 62) (a := _) (b := 8) rfl rfl dX7_adds_62 ?_
  refine a_dup2 (pc := 63) dX7_adds_63 rfl rfl ?_
  refine a_iald (pc := 64)  (by assumption) rfl (by omega) (by decide) dX7_adds_64 ?_
  refine a_top (y := nI s) (by rw [up2_k (by omega), up2_k (by omega)]; exact hs) ?_
  refine a_iconst (pc := 65) (v := 1) dX7_adds_65 (by decide) ?_
  refine a_iaddN (pc := 66) (a := _) (b := 1) rfl rfl dX7_adds_66 ?_
  refine a_iast (pc := 67)  (by assumption) rfl (by omega) (by decide) dX7_adds_67 ?_
  refine a_vret (pc := 68) rfl dX7_adds_68 ?_
  rfl

set_option maxHeartbeats 4000000 in
set_option maxRecDepth 100000 in
theorem c_X6_letter0 {μ : Mem} {U : Mem → Prop} (hU : Con shC mX6_remember [.ref 0] μ (fun _ u => U u)) (hf : ∀ u, U u → ∀ x, 1 ≤ x → x ≤ 106 → u x = μ x)  {N i j s : Nat} {k : Int32} (h0 : μ 2 0 = nI N) (hN : N ≤ 6) (hi : i < N) (hj : j < N) (hij : i ≠ j) (hk : ¬ k < 1 ∧ ¬ 9 < k) (hs : bitF (μ (stA 2 i) 0) (nI j)) (h6 : μ (stA 2 i + 1) 0 = nI s) (hl : s < 6) (h00 : s = 0) : Con shC mX6_letter [.ref 0, .int (nI i), .int (nI j), .int k] μ (fun r u => r = nI (s + 1) ∧ ∃ v, U v ∧ u = dwF (addF v (stA 2 i + 1) s (nI j) k) 2 i) := by
  have z0 : shC[0]? = some (6, 8, [some 1, none, some 2, some 53, some 104, some 106, none, none]) := rfl
  have hn := net_2
  obtain ⟨hn0, hn1, hn2, hnS⟩ := id hn
  have wi := hnS i (by omega)
  have w0 := wi.1
  have w1 := wi.2.1.1
  have wj := hnS j (by omega)
  have v0 := wj.1
  have v1 := wj.2.1.1
  refine Con.ofAW (al0 := [some (.ref 0), some (.int (nI i)), some (.int (nI j)), some (.int k), none]) (by decide) rfl (Nat.le_of_ble_eq_true rfl) rfl ?_
  refine a_aload_n (pc := 0) dX6_letter_0 rfl rfl ?_
  refine a_iload_n (pc := 1) dX6_letter_1 rfl rfl ?_
  refine a_iload_n (pc := 2) dX6_letter_2 rfl rfl ?_
  refine a_callI2 (pc := 3) ck_X6_63 ⟨(Nat.le_of_ble_eq_true rfl), (Nat.le_of_ble_eq_true rfl)⟩ (by assumption) (by decide) (Nat.le_of_ble_eq_true rfl) dX6_letter_3 rfl (c_X6_isPair h0 (by omega)) ?_
  rintro r u ⟨hr, rfl⟩
  have hr1 : r = 1 := by
    rcases hr with q | q
    · exact q.1
    · exact absurd ⟨⟨i, hi, rfl⟩, ⟨j, hj, rfl⟩, nI_ne (by omega) (by omega) hij⟩ q.2
  subst hr1
  refine a_if_eq (pc := 6) (tgt := 20) dX6_letter_6 (by decide) (fun c_6 => ?_) (fun c_6 => ?_)
  · exact absurd c_6 (by decide)
  · refine a_iload_n (pc := 9) dX6_letter_9 rfl rfl ?_
    refine a_iconst (pc := 10) (v := 1) dX6_letter_10 (by decide) ?_
    refine a_icmp_lt (pc := 11) (tgt := 20) dX6_letter_11 (by decide) (fun c_11 => ?_) (fun c_11 => ?_)
    · exact absurd c_11 hk.1
    · refine a_iload_n (pc := 14) dX6_letter_14 rfl rfl ?_
      refine a_bipush (pc := 15) (v := 9) dX6_letter_15 (by decide) ?_
      refine a_icmp_le (pc := 17) (tgt := 22) dX6_letter_17 (by decide) (fun c_17 => ?_) (fun c_17 => ?_)
      · refine a_aload_n (pc := 22) dX6_letter_22 rfl rfl ?_
        refine a_getr (pc := 23) fl_X6_16 (by assumption) (by decide) (by rfl) dX6_letter_23 ?_
        refine a_iload_n (pc := 26) dX6_letter_26 rfl rfl ?_
        refine a_iload_n (pc := 27) dX6_letter_27 rfl rfl ?_
        refine a_callI2 (pc := 28) ck_X6_67 ⟨(Nat.le_of_ble_eq_true rfl), (Nat.le_of_ble_eq_true rfl)⟩ (by assumption) (by decide) (Nat.le_of_ble_eq_true rfl) dX6_letter_28 rfl (c_X2_hears net_2 (by omega)) ?_
        rintro r u ⟨hr, rfl⟩
        have hr2 : r = 1 := by
          rcases hr with q | q
          · first | exact q.1 | exact absurd q.2 hs
          · first | exact q.1 | exact absurd hs q.2
        subst hr2
        refine a_if_ne (pc := 31) (tgt := 37) dX6_letter_31 (by decide) (fun c_31 => ?_) (fun c_31 => ?_)
        · refine a_aload_n (pc := 37) dX6_letter_37 rfl rfl ?_
          refine a_getr (pc := 38) fl_X6_16 (by assumption) (by decide) (by rfl) dX6_letter_38 ?_
          refine a_getr (pc := 41) fl_X6_70 (by assumption) (by decide) (by rfl) dX6_letter_41 ?_
          refine a_iload_n (pc := 44) dX6_letter_44 rfl rfl ?_
          refine a_aald2 (pc := 45)  (by assumption) rfl (by omega) (by decide) (all_at (by omega)) dX6_letter_45 ?_
          refine a_astore (pc := 46) (al' := [some (.ref _), some (.int _), some (.int _), some (.int _), some (.ref _)]) dX6_letter_46 (by decide) rfl rfl ?_
          refine a_aload (pc := 48) dX6_letter_48 rfl ?_
          refine a_getr (pc := 50) fl_X6_74 (by assumption) (by decide) (by rfl) dX6_letter_50 ?_
          refine a_geti (pc := 53) fl_X6_80 (by assumption) (by decide) (by rfl) dX6_letter_53 ?_
          refine a_top (y := nI s) h6 ?_
          refine a_bipush (pc := 56) (v := 6) dX6_letter_56 (by decide) ?_
          refine a_icmp_lt (pc := 58) (tgt := 64) dX6_letter_58 (by decide) (fun c_58 => ?_) (fun c_58 => ?_)
          · refine a_aload_n (pc := 64) dX6_letter_64 rfl rfl ?_
            refine a_callV0 (pc := 65) ck_X6_85 ⟨(Nat.le_of_ble_eq_true rfl), (Nat.le_of_ble_eq_true rfl)⟩ (by assumption) (by decide) (Nat.le_of_ble_eq_true rfl) dX6_letter_65 rfl hU ?_
            rintro v hv
            have hs1 : v (stA 2 i + 1) 0 = nI s := by rw [hf v hv _ (by unfold stA; omega) (by unfold stA; omega)]; exact h6
            refine a_aload (pc := 68) dX6_letter_68 rfl ?_
            refine a_getr (pc := 70) fl_X6_74 (by assumption) (by decide) (by rfl) dX6_letter_70 ?_
            refine a_iload_n (pc := 73) dX6_letter_73 rfl rfl ?_
            refine a_iload_n (pc := 74) dX6_letter_74 rfl rfl ?_
            refine a_callV2 (pc := 75) ck_X6_88 ⟨(Nat.le_of_ble_eq_true rfl), (Nat.le_of_ble_eq_true rfl)⟩ (by assumption) (by decide) (Nat.le_of_ble_eq_true rfl) dX6_letter_75 rfl (c_X0_add wi.2.1 hs1 hl) ?_
            rintro u rfl
            refine a_aload (pc := 78) dX6_letter_78 rfl ?_
            refine a_getr (pc := 80) fl_X6_74 (by assumption) (by decide) (by rfl) dX6_letter_80 ?_
            refine a_geti (pc := 83) fl_X6_80 (by assumption) (by decide) (by rfl) dX6_letter_83 ?_
            refine a_top (y := nI (s + 1)) (by unfold addF; exact up2_at) ?_
            refine a_iconst (pc := 86) (v := 1) dX6_letter_86 (by decide) ?_
            refine a_icmp_ne (pc := 87) (tgt := 98) dX6_letter_87 (by decide) (fun c_87 => ?_) (fun c_87 => ?_)
            · exact absurd (by rw [h00]; rfl) c_87
            · refine a_aload_n (pc := 90) dX6_letter_90 rfl rfl ?_
              refine a_getr (pc := 91) fl_X6_16 (by assumption) (by decide) (by rfl) dX6_letter_91 ?_
              refine a_iload_n (pc := 94) dX6_letter_94 rfl rfl ?_
              refine a_callV1 (pc := 95) ck_X6_92 ⟨(Nat.le_of_ble_eq_true rfl), (Nat.le_of_ble_eq_true rfl)⟩ (by assumption) (by decide) (Nat.le_of_ble_eq_true rfl) dX6_letter_95 rfl (c_X2_drawWait net_2 (by omega)) ?_
              rintro u rfl
              refine a_aload (pc := 98) dX6_letter_98 rfl ?_
              refine a_getr (pc := 100) fl_X6_74 (by assumption) (by decide) (by rfl) dX6_letter_100 ?_
              refine a_geti (pc := 103) fl_X6_80 (by assumption) (by decide) (by rfl) dX6_letter_103 ?_
              refine a_top (y := nI (s + 1)) (by first | (unfold addF; exact up2_at) | (rw [dwF_ne (by omega)]; unfold addF; exact up2_at)) ?_
              refine a_iret (pc := 106) rfl dX6_letter_106 ?_
              exact ⟨rfl, v, hv, rfl⟩
          · exact absurd (nI_lt (b := 6) (by omega) (by omega)) c_58
        · exact absurd c_31 (by decide)
      · exact absurd (Int32.not_lt.mp hk.2) c_17

set_option maxHeartbeats 4000000 in
set_option maxRecDepth 100000 in
theorem c_X6_letter1 {μ : Mem} {U : Mem → Prop} (hU : Con shC mX6_remember [.ref 0] μ (fun _ u => U u)) (hf : ∀ u, U u → ∀ x, 1 ≤ x → x ≤ 106 → u x = μ x)  {N i j s : Nat} {k : Int32} (h0 : μ 2 0 = nI N) (hN : N ≤ 6) (hi : i < N) (hj : j < N) (hij : i ≠ j) (hk : ¬ k < 1 ∧ ¬ 9 < k) (hs : bitF (μ (stA 2 i) 0) (nI j)) (h6 : μ (stA 2 i + 1) 0 = nI s) (hl : s < 6) (h00 : s ≠ 0) : Con shC mX6_letter [.ref 0, .int (nI i), .int (nI j), .int k] μ (fun r u => r = nI (s + 1) ∧ ∃ v, U v ∧ u = addF v (stA 2 i + 1) s (nI j) k) := by
  have z0 : shC[0]? = some (6, 8, [some 1, none, some 2, some 53, some 104, some 106, none, none]) := rfl
  have hn := net_2
  obtain ⟨hn0, hn1, hn2, hnS⟩ := id hn
  have wi := hnS i (by omega)
  have w0 := wi.1
  have w1 := wi.2.1.1
  have wj := hnS j (by omega)
  have v0 := wj.1
  have v1 := wj.2.1.1
  refine Con.ofAW (al0 := [some (.ref 0), some (.int (nI i)), some (.int (nI j)), some (.int k), none]) (by decide) rfl (Nat.le_of_ble_eq_true rfl) rfl ?_
  refine a_aload_n (pc := 0) dX6_letter_0 rfl rfl ?_
  refine a_iload_n (pc := 1) dX6_letter_1 rfl rfl ?_
  refine a_iload_n (pc := 2) dX6_letter_2 rfl rfl ?_
  refine a_callI2 (pc := 3) ck_X6_63 ⟨(Nat.le_of_ble_eq_true rfl), (Nat.le_of_ble_eq_true rfl)⟩ (by assumption) (by decide) (Nat.le_of_ble_eq_true rfl) dX6_letter_3 rfl (c_X6_isPair h0 (by omega)) ?_
  rintro r u ⟨hr, rfl⟩
  have hr1 : r = 1 := by
    rcases hr with q | q
    · exact q.1
    · exact absurd ⟨⟨i, hi, rfl⟩, ⟨j, hj, rfl⟩, nI_ne (by omega) (by omega) hij⟩ q.2
  subst hr1
  refine a_if_eq (pc := 6) (tgt := 20) dX6_letter_6 (by decide) (fun c_6 => ?_) (fun c_6 => ?_)
  · exact absurd c_6 (by decide)
  · refine a_iload_n (pc := 9) dX6_letter_9 rfl rfl ?_
    refine a_iconst (pc := 10) (v := 1) dX6_letter_10 (by decide) ?_
    refine a_icmp_lt (pc := 11) (tgt := 20) dX6_letter_11 (by decide) (fun c_11 => ?_) (fun c_11 => ?_)
    · exact absurd c_11 hk.1
    · refine a_iload_n (pc := 14) dX6_letter_14 rfl rfl ?_
      refine a_bipush (pc := 15) (v := 9) dX6_letter_15 (by decide) ?_
      refine a_icmp_le (pc := 17) (tgt := 22) dX6_letter_17 (by decide) (fun c_17 => ?_) (fun c_17 => ?_)
      · refine a_aload_n (pc := 22) dX6_letter_22 rfl rfl ?_
        refine a_getr (pc := 23) fl_X6_16 (by assumption) (by decide) (by rfl) dX6_letter_23 ?_
        refine a_iload_n (pc := 26) dX6_letter_26 rfl rfl ?_
        refine a_iload_n (pc := 27) dX6_letter_27 rfl rfl ?_
        refine a_callI2 (pc := 28) ck_X6_67 ⟨(Nat.le_of_ble_eq_true rfl), (Nat.le_of_ble_eq_true rfl)⟩ (by assumption) (by decide) (Nat.le_of_ble_eq_true rfl) dX6_letter_28 rfl (c_X2_hears net_2 (by omega)) ?_
        rintro r u ⟨hr, rfl⟩
        have hr2 : r = 1 := by
          rcases hr with q | q
          · first | exact q.1 | exact absurd q.2 hs
          · first | exact q.1 | exact absurd hs q.2
        subst hr2
        refine a_if_ne (pc := 31) (tgt := 37) dX6_letter_31 (by decide) (fun c_31 => ?_) (fun c_31 => ?_)
        · refine a_aload_n (pc := 37) dX6_letter_37 rfl rfl ?_
          refine a_getr (pc := 38) fl_X6_16 (by assumption) (by decide) (by rfl) dX6_letter_38 ?_
          refine a_getr (pc := 41) fl_X6_70 (by assumption) (by decide) (by rfl) dX6_letter_41 ?_
          refine a_iload_n (pc := 44) dX6_letter_44 rfl rfl ?_
          refine a_aald2 (pc := 45)  (by assumption) rfl (by omega) (by decide) (all_at (by omega)) dX6_letter_45 ?_
          refine a_astore (pc := 46) (al' := [some (.ref _), some (.int _), some (.int _), some (.int _), some (.ref _)]) dX6_letter_46 (by decide) rfl rfl ?_
          refine a_aload (pc := 48) dX6_letter_48 rfl ?_
          refine a_getr (pc := 50) fl_X6_74 (by assumption) (by decide) (by rfl) dX6_letter_50 ?_
          refine a_geti (pc := 53) fl_X6_80 (by assumption) (by decide) (by rfl) dX6_letter_53 ?_
          refine a_top (y := nI s) h6 ?_
          refine a_bipush (pc := 56) (v := 6) dX6_letter_56 (by decide) ?_
          refine a_icmp_lt (pc := 58) (tgt := 64) dX6_letter_58 (by decide) (fun c_58 => ?_) (fun c_58 => ?_)
          · refine a_aload_n (pc := 64) dX6_letter_64 rfl rfl ?_
            refine a_callV0 (pc := 65) ck_X6_85 ⟨(Nat.le_of_ble_eq_true rfl), (Nat.le_of_ble_eq_true rfl)⟩ (by assumption) (by decide) (Nat.le_of_ble_eq_true rfl) dX6_letter_65 rfl hU ?_
            rintro v hv
            have hs1 : v (stA 2 i + 1) 0 = nI s := by rw [hf v hv _ (by unfold stA; omega) (by unfold stA; omega)]; exact h6
            refine a_aload (pc := 68) dX6_letter_68 rfl ?_
            refine a_getr (pc := 70) fl_X6_74 (by assumption) (by decide) (by rfl) dX6_letter_70 ?_
            refine a_iload_n (pc := 73) dX6_letter_73 rfl rfl ?_
            refine a_iload_n (pc := 74) dX6_letter_74 rfl rfl ?_
            refine a_callV2 (pc := 75) ck_X6_88 ⟨(Nat.le_of_ble_eq_true rfl), (Nat.le_of_ble_eq_true rfl)⟩ (by assumption) (by decide) (Nat.le_of_ble_eq_true rfl) dX6_letter_75 rfl (c_X0_add wi.2.1 hs1 hl) ?_
            rintro u rfl
            refine a_aload (pc := 78) dX6_letter_78 rfl ?_
            refine a_getr (pc := 80) fl_X6_74 (by assumption) (by decide) (by rfl) dX6_letter_80 ?_
            refine a_geti (pc := 83) fl_X6_80 (by assumption) (by decide) (by rfl) dX6_letter_83 ?_
            refine a_top (y := nI (s + 1)) (by unfold addF; exact up2_at) ?_
            refine a_iconst (pc := 86) (v := 1) dX6_letter_86 (by decide) ?_
            refine a_icmp_ne (pc := 87) (tgt := 98) dX6_letter_87 (by decide) (fun c_87 => ?_) (fun c_87 => ?_)
            · refine a_aload (pc := 98) dX6_letter_98 rfl ?_
              refine a_getr (pc := 100) fl_X6_74 (by assumption) (by decide) (by rfl) dX6_letter_100 ?_
              refine a_geti (pc := 103) fl_X6_80 (by assumption) (by decide) (by rfl) dX6_letter_103 ?_
              refine a_top (y := nI (s + 1)) (by first | (unfold addF; exact up2_at) | (rw [dwF_ne (by omega)]; unfold addF; exact up2_at)) ?_
              refine a_iret (pc := 106) rfl dX6_letter_106 ?_
              exact ⟨rfl, v, hv, rfl⟩
            · exact absurd c_87 (nI_ne (b := 1) (by omega) (by omega) (by omega))
          · exact absurd (nI_lt (b := 6) (by omega) (by omega)) c_58
        · exact absurd c_31 (by decide)
      · exact absurd (Int32.not_lt.mp hk.2) c_17

theorem cms_8 {f : Nat → Int32} {b i : Nat} : cmsF f b i (b + 70 * i + 8) = f (b + 70 * i + 8) := by
  unfold cmsF wtsF
  split <;> simp [upd_ap]
set_option maxHeartbeats 4000000 in
set_option maxRecDepth 100000 in
theorem c_X7_letter0 {ν : Mem} {V : Mem → Prop} (hV : Con shM mX7_keeps [.ref 0] ν (fun _ u => V u)) (hg : ∀ v, V v → (∀ x, 1 ≤ x → x ≠ 3 → v x = ν x) ∧ ∀ k, k ≠ 9 → v 0 k = ν 0 k)  {N i j s : Nat} {k : Int32} (h0 : ν 0 2 = nI N) (hN : N ≤ 6) (hi : i < N) (hj : j < N) (hij : i ≠ j) (hk : ¬ k < 1 ∧ ¬ 9 < k) (hs : bitF (ν 2 (420 + i)) (nI j)) (h6 : ν 2 (440 * 0 + 70 * i + 8) = nI s) (hl : s < 6) (hw : ¬ ν 2 (440 * 0 + 70 * i) = 0) (h00 : s = 0) : Con shM mX7_letter [.ref 0, .int (nI i), .int (nI j), .int k] ν (fun r u => r = nI (s + 1) ∧ ∃ v, V v ∧ u = upA (adsF v 0 i s (nI j) k) 2 (cmsF (adsF v 0 i s (nI j) k 2) (440 * 0) i)) := by
  have m0 : shM[0]? = some (7, 18, [none, some 1, none, none, none, none, none, some 2, some 3, none, none, some 4, none, none, some 5, some 6, some 7, some 8]) := rfl
  have m1 : shM[1]? = some (100, 200, []) := rfl
  have m2 : shM[2]? = some (100, 1320, []) := rfl
  have m3 : shM[3]? = some (100, 1760, []) := rfl
  have m4 : shM[4]? = some (100, 4, []) := rfl
  have m5 : shM[5]? = some (100, 6, []) := rfl
  have m6 : shM[6]? = some (100, 6, []) := rfl
  have m7 : shM[7]? = some (100, 6, []) := rfl
  have m8 : shM[8]? = some (100, 6, []) := rfl
  refine Con.ofAW (al0 := [some (.ref 0), some (.int (nI i)), some (.int (nI j)), some (.int k)]) (by decide) rfl (Nat.le_of_ble_eq_true rfl) rfl ?_
  refine a_aload_n (pc := 0) dX7_letter_0 rfl rfl ?_
  refine a_iload_n (pc := 1) dX7_letter_1 rfl rfl ?_
  refine a_iload_n (pc := 2) dX7_letter_2 rfl rfl ?_
  refine a_callI2 (pc := 3) ck_X7_178 ⟨(Nat.le_of_ble_eq_true rfl), (Nat.le_of_ble_eq_true rfl)⟩ (by assumption) (by decide) (Nat.le_of_ble_eq_true rfl) dX7_letter_3 rfl (c_X7_areTwo h0 (by omega) (by omega)) ?_
  rintro r u ⟨hr, rfl⟩
  have hr1 : r = 1 := by
    rcases hr with q | q
    · exact q.1
    · exact absurd ⟨⟨i, hi, rfl⟩, ⟨j, hj, rfl⟩, nI_ne (by omega) (by omega) hij⟩ q.2
  subst hr1
  refine a_if_eq (pc := 6) (tgt := 19) dX7_letter_6 (by decide) (fun c_6 => ?_) (fun c_6 => ?_)
  · exact absurd c_6 (by decide)
  · refine a_iload_n (pc := 9) dX7_letter_9 rfl rfl ?_
    refine a_iconst (pc := 10) (v := 1) dX7_letter_10 (by decide) ?_
    refine a_bipush (pc := 11) (v := 9) dX7_letter_11 (by decide) ?_
    refine a_callS3 (pc := 13) cs_X7_94 ⟨(Nat.le_of_ble_eq_true rfl), (Nat.le_of_ble_eq_true rfl)⟩ (Nat.le_of_ble_eq_true rfl) dX7_letter_13 rfl c_X7_isIn ?_
    rintro r u ⟨hr, rfl⟩
    have hr1 := isin_y hr (hk)
    subst hr1
    refine a_if_ne (pc := 16) (tgt := 21) dX7_letter_16 (by decide) (fun c_16 => ?_) (fun c_16 => ?_)
    · refine a_aload_n (pc := 21) dX7_letter_21 rfl rfl ?_
      refine a_getr (pc := 22) fl_X7_13 (by assumption) (by decide) (by rfl) dX7_letter_22 ?_
      refine a_sipush (pc := 25) (v := 420) dX7_letter_25 (by decide) ?_
      refine a_iload_n (pc := 28) dX7_letter_28 rfl rfl ?_
      refine a_iaddN (pc := 29) (a := 420) (b := _) rfl rfl dX7_letter_29 ?_
      refine a_iald (pc := 30)  (by assumption) rfl (by omega) (by decide) dX7_letter_30 ?_
      refine a_iload_n (pc := 31) dX7_letter_31 rfl rfl ?_
      refine a_callS2 (pc := 32) cs_X7_105 ⟨(Nat.le_of_ble_eq_true rfl), (Nat.le_of_ble_eq_true rfl)⟩ (Nat.le_of_ble_eq_true rfl) dX7_letter_32 rfl c_X7_has ?_
      rintro r u ⟨hr, rfl⟩
      have hr2 : r = 1 := by
        rcases hr with q | q
        · first | exact q.1 | exact absurd q.2 hs
        · first | exact q.1 | exact absurd hs q.2
      subst hr2
      refine a_if_ne (pc := 35) (tgt := 41) dX7_letter_35 (by decide) (fun c_35 => ?_) (fun c_35 => ?_)
      · refine a_aload_n (pc := 41) dX7_letter_41 rfl rfl ?_
        refine a_getr (pc := 42) fl_X7_13 (by assumption) (by decide) (by rfl) dX7_letter_42 ?_
        refine a_iconst (pc := 45) (v := 0) dX7_letter_45 (by decide) ?_
        refine a_iload_n (pc := 46) dX7_letter_46 rfl rfl ?_
        refine a_callS2 (pc := 47) cs_X7_52 ⟨(Nat.le_of_ble_eq_true rfl), (Nat.le_of_ble_eq_true rfl)⟩ (Nat.le_of_ble_eq_true rfl) dX7_letter_47 rfl (c_X7_at (r := 0)) ?_
        rintro r_ u ⟨rfl, rfl⟩
        refine a_bipush (pc := 50) (v := 8) dX7_letter_50 (by decide) ?_
        refine a_iaddN (pc := 52) (a := _) (b := 8) rfl rfl dX7_letter_52 ?_
        refine a_iald (pc := 53)  (by assumption) rfl (by omega) (by decide) dX7_letter_53 ?_
        refine a_top (y := nI s) h6 ?_
        refine a_bipush (pc := 54) (v := 6) dX7_letter_54 (by decide) ?_
        refine a_icmp_ne (pc := 56) (tgt := 62) dX7_letter_56 (by decide) (fun c_56 => ?_) (fun c_56 => ?_)
        · refine a_aload_n (pc := 62) dX7_letter_62 rfl rfl ?_
          refine a_callV0 (pc := 63) ck_X7_181 ⟨(Nat.le_of_ble_eq_true rfl), (Nat.le_of_ble_eq_true rfl)⟩ (by assumption) (by decide) (Nat.le_of_ble_eq_true rfl) dX7_letter_63 rfl hV ?_
          rintro v hv
          have hs1 : v 2 (440 * 0 + 70 * i + 8) = nI s := by rw [(hg v hv).1 2 (by omega) (by omega)]; exact h6
          have hw1 : ¬ v 2 (440 * 0 + 70 * i) = 0 := by rw [(hg v hv).1 2 (by omega) (by omega)]; exact hw
          refine a_aload_n (pc := 66) dX7_letter_66 rfl rfl ?_
          refine a_iconst (pc := 67) (v := 0) dX7_letter_67 (by decide) ?_
          refine a_iload_n (pc := 68) dX7_letter_68 rfl rfl ?_
          refine a_iload_n (pc := 69) dX7_letter_69 rfl rfl ?_
          refine a_iload_n (pc := 70) dX7_letter_70 rfl rfl ?_
          refine a_callV4 (pc := 71) ck_X7_45 ⟨(Nat.le_of_ble_eq_true rfl), (Nat.le_of_ble_eq_true rfl)⟩ (by assumption) (by decide) (Nat.le_of_ble_eq_true rfl) dX7_letter_71 rfl (c_X7_adds (r := 0) (by omega) (by omega) hs1 hl) ?_
          rintro u rfl
          refine a_aload_n (pc := 74) dX7_letter_74 rfl rfl ?_
          refine a_getr (pc := 75) fl_X7_13 (by assumption) (by decide) (by rfl) dX7_letter_75 ?_
          refine a_iconst (pc := 78) (v := 0) dX7_letter_78 (by decide) ?_
          refine a_iload_n (pc := 79) dX7_letter_79 rfl rfl ?_
          refine a_callS2 (pc := 80) cs_X7_52 ⟨(Nat.le_of_ble_eq_true rfl), (Nat.le_of_ble_eq_true rfl)⟩ (Nat.le_of_ble_eq_true rfl) dX7_letter_80 rfl (c_X7_at (r := 0)) ?_
          rintro r_ u ⟨rfl, rfl⟩
          refine a_bipush (pc := 83) (v := 8) dX7_letter_83 (by decide) ?_
          refine a_iaddN (pc := 85) (a := _) (b := 8) rfl rfl dX7_letter_85 ?_
          refine a_iald (pc := 86)  (by assumption) rfl (by omega) (by decide) dX7_letter_86 ?_
          refine a_top (y := nI (s + 1)) (by unfold adsF; exact up2_at) ?_
          refine a_iconst (pc := 87) (v := 1) dX7_letter_87 (by decide) ?_
          refine a_icmp_ne (pc := 88) (tgt := 97) dX7_letter_88 (by decide) (fun c_88 => ?_) (fun c_88 => ?_)
          · exact absurd (by rw [h00]; rfl) c_88
          · refine a_aload_n (pc := 91) dX7_letter_91 rfl rfl ?_
            refine a_iconst (pc := 92) (v := 0) dX7_letter_92 (by decide) ?_
            refine a_iload_n (pc := 93) dX7_letter_93 rfl rfl ?_
            refine a_callV2 (pc := 94) ck_X7_78 ⟨(Nat.le_of_ble_eq_true rfl), (Nat.le_of_ble_eq_true rfl)⟩ (by assumption) (by decide) (Nat.le_of_ble_eq_true rfl) dX7_letter_94 rfl (c_X7_comes (r := 0) (by omega) (by omega) (by unfold adsF; rw [up2_k (by omega), up2_k (by omega), up2_k (by omega)]; exact hw1)) ?_
            rintro u rfl
            refine a_aload_n (pc := 97) dX7_letter_97 rfl rfl ?_
            refine a_getr (pc := 98) fl_X7_13 (by assumption) (by decide) (by rfl) dX7_letter_98 ?_
            refine a_iconst (pc := 101) (v := 0) dX7_letter_101 (by decide) ?_
            refine a_iload_n (pc := 102) dX7_letter_102 rfl rfl ?_
            refine a_callS2 (pc := 103) cs_X7_52 ⟨(Nat.le_of_ble_eq_true rfl), (Nat.le_of_ble_eq_true rfl)⟩ (Nat.le_of_ble_eq_true rfl) dX7_letter_103 rfl (c_X7_at (r := 0)) ?_
            rintro r_ u ⟨rfl, rfl⟩
            refine a_bipush (pc := 106) (v := 8) dX7_letter_106 (by decide) ?_
            refine a_iaddN (pc := 108) (a := _) (b := 8) rfl rfl dX7_letter_108 ?_
            refine a_iald (pc := 109)  (by assumption) rfl (by omega) (by decide) dX7_letter_109 ?_
            refine a_top (y := nI (s + 1)) (by first | (unfold adsF; exact up2_at) | (rw [upA_at, cms_8]; unfold adsF; exact up2_at)) ?_
            refine a_iret (pc := 110) rfl dX7_letter_110 ?_
            exact ⟨rfl, v, hv, rfl⟩
        · exact absurd c_56 (nI_ne (b := 6) (by omega) (by omega) (by omega))
      · exact absurd c_35 (by decide)
    · exact absurd c_16 (by decide)

set_option maxHeartbeats 4000000 in
set_option maxRecDepth 100000 in
theorem c_X7_letter1 {ν : Mem} {V : Mem → Prop} (hV : Con shM mX7_keeps [.ref 0] ν (fun _ u => V u)) (hg : ∀ v, V v → (∀ x, 1 ≤ x → x ≠ 3 → v x = ν x) ∧ ∀ k, k ≠ 9 → v 0 k = ν 0 k)  {N i j s : Nat} {k : Int32} (h0 : ν 0 2 = nI N) (hN : N ≤ 6) (hi : i < N) (hj : j < N) (hij : i ≠ j) (hk : ¬ k < 1 ∧ ¬ 9 < k) (hs : bitF (ν 2 (420 + i)) (nI j)) (h6 : ν 2 (440 * 0 + 70 * i + 8) = nI s) (hl : s < 6) (hw : ¬ ν 2 (440 * 0 + 70 * i) = 0) (h00 : s ≠ 0) : Con shM mX7_letter [.ref 0, .int (nI i), .int (nI j), .int k] ν (fun r u => r = nI (s + 1) ∧ ∃ v, V v ∧ u = adsF v 0 i s (nI j) k) := by
  have m0 : shM[0]? = some (7, 18, [none, some 1, none, none, none, none, none, some 2, some 3, none, none, some 4, none, none, some 5, some 6, some 7, some 8]) := rfl
  have m1 : shM[1]? = some (100, 200, []) := rfl
  have m2 : shM[2]? = some (100, 1320, []) := rfl
  have m3 : shM[3]? = some (100, 1760, []) := rfl
  have m4 : shM[4]? = some (100, 4, []) := rfl
  have m5 : shM[5]? = some (100, 6, []) := rfl
  have m6 : shM[6]? = some (100, 6, []) := rfl
  have m7 : shM[7]? = some (100, 6, []) := rfl
  have m8 : shM[8]? = some (100, 6, []) := rfl
  refine Con.ofAW (al0 := [some (.ref 0), some (.int (nI i)), some (.int (nI j)), some (.int k)]) (by decide) rfl (Nat.le_of_ble_eq_true rfl) rfl ?_
  refine a_aload_n (pc := 0) dX7_letter_0 rfl rfl ?_
  refine a_iload_n (pc := 1) dX7_letter_1 rfl rfl ?_
  refine a_iload_n (pc := 2) dX7_letter_2 rfl rfl ?_
  refine a_callI2 (pc := 3) ck_X7_178 ⟨(Nat.le_of_ble_eq_true rfl), (Nat.le_of_ble_eq_true rfl)⟩ (by assumption) (by decide) (Nat.le_of_ble_eq_true rfl) dX7_letter_3 rfl (c_X7_areTwo h0 (by omega) (by omega)) ?_
  rintro r u ⟨hr, rfl⟩
  have hr1 : r = 1 := by
    rcases hr with q | q
    · exact q.1
    · exact absurd ⟨⟨i, hi, rfl⟩, ⟨j, hj, rfl⟩, nI_ne (by omega) (by omega) hij⟩ q.2
  subst hr1
  refine a_if_eq (pc := 6) (tgt := 19) dX7_letter_6 (by decide) (fun c_6 => ?_) (fun c_6 => ?_)
  · exact absurd c_6 (by decide)
  · refine a_iload_n (pc := 9) dX7_letter_9 rfl rfl ?_
    refine a_iconst (pc := 10) (v := 1) dX7_letter_10 (by decide) ?_
    refine a_bipush (pc := 11) (v := 9) dX7_letter_11 (by decide) ?_
    refine a_callS3 (pc := 13) cs_X7_94 ⟨(Nat.le_of_ble_eq_true rfl), (Nat.le_of_ble_eq_true rfl)⟩ (Nat.le_of_ble_eq_true rfl) dX7_letter_13 rfl c_X7_isIn ?_
    rintro r u ⟨hr, rfl⟩
    have hr1 := isin_y hr (hk)
    subst hr1
    refine a_if_ne (pc := 16) (tgt := 21) dX7_letter_16 (by decide) (fun c_16 => ?_) (fun c_16 => ?_)
    · refine a_aload_n (pc := 21) dX7_letter_21 rfl rfl ?_
      refine a_getr (pc := 22) fl_X7_13 (by assumption) (by decide) (by rfl) dX7_letter_22 ?_
      refine a_sipush (pc := 25) (v := 420) dX7_letter_25 (by decide) ?_
      refine a_iload_n (pc := 28) dX7_letter_28 rfl rfl ?_
      refine a_iaddN (pc := 29) (a := 420) (b := _) rfl rfl dX7_letter_29 ?_
      refine a_iald (pc := 30)  (by assumption) rfl (by omega) (by decide) dX7_letter_30 ?_
      refine a_iload_n (pc := 31) dX7_letter_31 rfl rfl ?_
      refine a_callS2 (pc := 32) cs_X7_105 ⟨(Nat.le_of_ble_eq_true rfl), (Nat.le_of_ble_eq_true rfl)⟩ (Nat.le_of_ble_eq_true rfl) dX7_letter_32 rfl c_X7_has ?_
      rintro r u ⟨hr, rfl⟩
      have hr2 : r = 1 := by
        rcases hr with q | q
        · first | exact q.1 | exact absurd q.2 hs
        · first | exact q.1 | exact absurd hs q.2
      subst hr2
      refine a_if_ne (pc := 35) (tgt := 41) dX7_letter_35 (by decide) (fun c_35 => ?_) (fun c_35 => ?_)
      · refine a_aload_n (pc := 41) dX7_letter_41 rfl rfl ?_
        refine a_getr (pc := 42) fl_X7_13 (by assumption) (by decide) (by rfl) dX7_letter_42 ?_
        refine a_iconst (pc := 45) (v := 0) dX7_letter_45 (by decide) ?_
        refine a_iload_n (pc := 46) dX7_letter_46 rfl rfl ?_
        refine a_callS2 (pc := 47) cs_X7_52 ⟨(Nat.le_of_ble_eq_true rfl), (Nat.le_of_ble_eq_true rfl)⟩ (Nat.le_of_ble_eq_true rfl) dX7_letter_47 rfl (c_X7_at (r := 0)) ?_
        rintro r_ u ⟨rfl, rfl⟩
        refine a_bipush (pc := 50) (v := 8) dX7_letter_50 (by decide) ?_
        refine a_iaddN (pc := 52) (a := _) (b := 8) rfl rfl dX7_letter_52 ?_
        refine a_iald (pc := 53)  (by assumption) rfl (by omega) (by decide) dX7_letter_53 ?_
        refine a_top (y := nI s) h6 ?_
        refine a_bipush (pc := 54) (v := 6) dX7_letter_54 (by decide) ?_
        refine a_icmp_ne (pc := 56) (tgt := 62) dX7_letter_56 (by decide) (fun c_56 => ?_) (fun c_56 => ?_)
        · refine a_aload_n (pc := 62) dX7_letter_62 rfl rfl ?_
          refine a_callV0 (pc := 63) ck_X7_181 ⟨(Nat.le_of_ble_eq_true rfl), (Nat.le_of_ble_eq_true rfl)⟩ (by assumption) (by decide) (Nat.le_of_ble_eq_true rfl) dX7_letter_63 rfl hV ?_
          rintro v hv
          have hs1 : v 2 (440 * 0 + 70 * i + 8) = nI s := by rw [(hg v hv).1 2 (by omega) (by omega)]; exact h6
          have hw1 : ¬ v 2 (440 * 0 + 70 * i) = 0 := by rw [(hg v hv).1 2 (by omega) (by omega)]; exact hw
          refine a_aload_n (pc := 66) dX7_letter_66 rfl rfl ?_
          refine a_iconst (pc := 67) (v := 0) dX7_letter_67 (by decide) ?_
          refine a_iload_n (pc := 68) dX7_letter_68 rfl rfl ?_
          refine a_iload_n (pc := 69) dX7_letter_69 rfl rfl ?_
          refine a_iload_n (pc := 70) dX7_letter_70 rfl rfl ?_
          refine a_callV4 (pc := 71) ck_X7_45 ⟨(Nat.le_of_ble_eq_true rfl), (Nat.le_of_ble_eq_true rfl)⟩ (by assumption) (by decide) (Nat.le_of_ble_eq_true rfl) dX7_letter_71 rfl (c_X7_adds (r := 0) (by omega) (by omega) hs1 hl) ?_
          rintro u rfl
          refine a_aload_n (pc := 74) dX7_letter_74 rfl rfl ?_
          refine a_getr (pc := 75) fl_X7_13 (by assumption) (by decide) (by rfl) dX7_letter_75 ?_
          refine a_iconst (pc := 78) (v := 0) dX7_letter_78 (by decide) ?_
          refine a_iload_n (pc := 79) dX7_letter_79 rfl rfl ?_
          refine a_callS2 (pc := 80) cs_X7_52 ⟨(Nat.le_of_ble_eq_true rfl), (Nat.le_of_ble_eq_true rfl)⟩ (Nat.le_of_ble_eq_true rfl) dX7_letter_80 rfl (c_X7_at (r := 0)) ?_
          rintro r_ u ⟨rfl, rfl⟩
          refine a_bipush (pc := 83) (v := 8) dX7_letter_83 (by decide) ?_
          refine a_iaddN (pc := 85) (a := _) (b := 8) rfl rfl dX7_letter_85 ?_
          refine a_iald (pc := 86)  (by assumption) rfl (by omega) (by decide) dX7_letter_86 ?_
          refine a_top (y := nI (s + 1)) (by unfold adsF; exact up2_at) ?_
          refine a_iconst (pc := 87) (v := 1) dX7_letter_87 (by decide) ?_
          refine a_icmp_ne (pc := 88) (tgt := 97) dX7_letter_88 (by decide) (fun c_88 => ?_) (fun c_88 => ?_)
          · refine a_aload_n (pc := 97) dX7_letter_97 rfl rfl ?_
            refine a_getr (pc := 98) fl_X7_13 (by assumption) (by decide) (by rfl) dX7_letter_98 ?_
            refine a_iconst (pc := 101) (v := 0) dX7_letter_101 (by decide) ?_
            refine a_iload_n (pc := 102) dX7_letter_102 rfl rfl ?_
            refine a_callS2 (pc := 103) cs_X7_52 ⟨(Nat.le_of_ble_eq_true rfl), (Nat.le_of_ble_eq_true rfl)⟩ (Nat.le_of_ble_eq_true rfl) dX7_letter_103 rfl (c_X7_at (r := 0)) ?_
            rintro r_ u ⟨rfl, rfl⟩
            refine a_bipush (pc := 106) (v := 8) dX7_letter_106 (by decide) ?_
            refine a_iaddN (pc := 108) (a := _) (b := 8) rfl rfl dX7_letter_108 ?_
            refine a_iald (pc := 109)  (by assumption) rfl (by omega) (by decide) dX7_letter_109 ?_
            refine a_top (y := nI (s + 1)) (by first | (unfold adsF; exact up2_at) | (rw [upA_at, cms_8]; unfold adsF; exact up2_at)) ?_
            refine a_iret (pc := 110) rfl dX7_letter_110 ?_
            exact ⟨rfl, v, hv, rfl⟩
          · exact absurd c_88 (nI_ne (b := 1) (by omega) (by omega) (by omega))
        · exact absurd c_56 (nI_ne (b := 6) (by omega) (by omega) (by omega))
      · exact absurd c_35 (by decide)
    · exact absurd c_16 (by decide)

