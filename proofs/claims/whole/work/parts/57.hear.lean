/-! hear -/
set_option maxHeartbeats 4000000 in
set_option maxRecDepth 100000 in
theorem c_X6_hearX {μ : Mem} {N : Nat} {i j k : Int32} (h0 : μ 2 0 = nI N) (hN : N ≤ 6) (h : ¬ ((stnP i N ∧ stnP j N ∧ ¬ i = j) ∧ ¬ k < 0 ∧ ¬ 1 < k)) : Con shC mX6_hear [.ref 0, .int i, .int j, .int k] μ (fun r u => r = -1 ∧ μ = u) := by
  have z0 : shC[0]? = some (6, 8, [some 1, none, some 2, some 53, some 104, some 106, none, none]) := rfl
  have hn := net_2
  obtain ⟨hn0, hn1, hn2, hnS⟩ := id hn
  refine Con.ofAW (al0 := [some (.ref 0), some (.int i), some (.int j), some (.int k), none]) (by decide) rfl (Nat.le_of_ble_eq_true rfl) rfl ?_
  refine a_aload_n (pc := 0) dX6_hear_0 rfl rfl ?_
  refine a_iload_n (pc := 1) dX6_hear_1 rfl rfl ?_
  refine a_iload_n (pc := 2) dX6_hear_2 rfl rfl ?_
  refine a_callI2 (pc := 3) ck_X6_63 ⟨(Nat.le_of_ble_eq_true rfl), (Nat.le_of_ble_eq_true rfl)⟩ (by assumption) (by decide) (Nat.le_of_ble_eq_true rfl) dX6_hear_3 rfl (c_X6_isPair h0 (by omega)) ?_
  rintro r u ⟨hr, rfl⟩
  refine a_if_eq (pc := 6) (tgt := 18) dX6_hear_6 (by decide) (fun c_6 => ?_) (fun c_6 => ?_)
  · refine a_iconst (pc := 18) (v := -1) dX6_hear_18 (by decide) ?_
    refine a_iret (pc := 19) rfl dX6_hear_19 ?_
    exact ⟨rfl, rfl⟩
  · refine a_iload_n (pc := 9) dX6_hear_9 rfl rfl ?_
    refine a_if_lt (pc := 10) (tgt := 18) dX6_hear_10 (by decide) (fun c_10 => ?_) (fun c_10 => ?_)
    · refine a_iconst (pc := 18) (v := -1) dX6_hear_18 (by decide) ?_
      refine a_iret (pc := 19) rfl dX6_hear_19 ?_
      exact ⟨rfl, rfl⟩
    · refine a_iload_n (pc := 13) dX6_hear_13 rfl rfl ?_
      refine a_iconst (pc := 14) (v := 1) dX6_hear_14 (by decide) ?_
      refine a_icmp_le (pc := 15) (tgt := 20) dX6_hear_15 (by decide) (fun c_15 => ?_) (fun c_15 => ?_)
      · exfalso
        rw [← Int32.not_lt] at c_15
        simp_all [-Int32.not_lt, -Int32.not_le]
      · refine a_iconst (pc := 18) (v := -1) dX6_hear_18 (by decide) ?_
        refine a_iret (pc := 19) rfl dX6_hear_19 ?_
        exact ⟨rfl, rfl⟩

set_option maxHeartbeats 4000000 in
set_option maxRecDepth 100000 in
theorem c_X7_hearX {ν : Mem} {N : Nat} {i j k : Int32} (h0 : ν 0 2 = nI N) (hN : N ≤ 6) (hN1 : 1 ≤ N) (h : ¬ ((stnP i N ∧ stnP j N ∧ ¬ i = j) ∧ ¬ k < 0 ∧ ¬ 1 < k)) : Con shM mX7_hear [.ref 0, .int i, .int j, .int k] ν (fun r u => r = -1 ∧ ν = u) := by
  have m0 : shM[0]? = some (7, 18, [none, some 1, none, none, none, none, none, some 2, some 3, none, none, some 4, none, none, some 5, some 6, some 7, some 8]) := rfl
  have m1 : shM[1]? = some (100, 200, []) := rfl
  have m2 : shM[2]? = some (100, 1320, []) := rfl
  have m3 : shM[3]? = some (100, 1760, []) := rfl
  have m4 : shM[4]? = some (100, 4, []) := rfl
  have m5 : shM[5]? = some (100, 6, []) := rfl
  have m6 : shM[6]? = some (100, 6, []) := rfl
  have m7 : shM[7]? = some (100, 6, []) := rfl
  have m8 : shM[8]? = some (100, 6, []) := rfl
  refine Con.ofAW (al0 := [some (.ref 0), some (.int i), some (.int j), some (.int k)]) (by decide) rfl (Nat.le_of_ble_eq_true rfl) rfl ?_
  refine a_aload_n (pc := 0) dX7_hear_0 rfl rfl ?_
  refine a_iload_n (pc := 1) dX7_hear_1 rfl rfl ?_
  refine a_iload_n (pc := 2) dX7_hear_2 rfl rfl ?_
  refine a_callI2 (pc := 3) ck_X7_178 ⟨(Nat.le_of_ble_eq_true rfl), (Nat.le_of_ble_eq_true rfl)⟩ (by assumption) (by decide) (Nat.le_of_ble_eq_true rfl) dX7_hear_3 rfl (c_X7_areTwo h0 (by omega) hN1) ?_
  rintro r u ⟨hr, rfl⟩
  refine a_if_eq (pc := 6) (tgt := 18) dX7_hear_6 (by decide) (fun c_6 => ?_) (fun c_6 => ?_)
  · refine a_iconst (pc := 18) (v := -1) dX7_hear_18 (by decide) ?_
    refine a_iret (pc := 19) rfl dX7_hear_19 ?_
    exact ⟨rfl, rfl⟩
  · refine a_iload_n (pc := 9) dX7_hear_9 rfl rfl ?_
    refine a_iconst (pc := 10) (v := 0) dX7_hear_10 (by decide) ?_
    refine a_iconst (pc := 11) (v := 1) dX7_hear_11 (by decide) ?_
    refine a_callS3 (pc := 12) cs_X7_94 ⟨(Nat.le_of_ble_eq_true rfl), (Nat.le_of_ble_eq_true rfl)⟩ (Nat.le_of_ble_eq_true rfl) dX7_hear_12 rfl c_X7_isIn ?_
    rintro r2 u ⟨hr2, rfl⟩
    refine a_if_ne (pc := 15) (tgt := 20) dX7_hear_15 (by decide) (fun c_15 => ?_) (fun c_15 => ?_)
    · exfalso; simp_all [-Int32.not_lt, -Int32.not_le]
    · refine a_iconst (pc := 18) (v := -1) dX7_hear_18 (by decide) ?_
      refine a_iret (pc := 19) rfl dX7_hear_19 ?_
      exact ⟨rfl, rfl⟩

set_option maxHeartbeats 4000000 in
set_option maxRecDepth 100000 in
theorem c_X6_hearS0 {μ : Mem} {N i j : Nat} (h0 : μ 2 0 = nI N) (hN : N ≤ 6) (hi : i < N) (hj : j < N) (hij : i ≠ j) (hs : ¬ bitF (μ (stA 2 i) 0) (nI j)) : Con shC mX6_hear [.ref 0, .int (nI i), .int (nI j), .int 0] μ (fun r u => r = -2 ∧ μ = u) := by
  have z0 : shC[0]? = some (6, 8, [some 1, none, some 2, some 53, some 104, some 106, none, none]) := rfl
  have hn := net_2
  obtain ⟨hn0, hn1, hn2, hnS⟩ := id hn
  refine Con.ofAW (al0 := [some (.ref 0), some (.int (nI i)), some (.int (nI j)), some (.int 0), none]) (by decide) rfl (Nat.le_of_ble_eq_true rfl) rfl ?_
  refine a_aload_n (pc := 0) dX6_hear_0 rfl rfl ?_
  refine a_iload_n (pc := 1) dX6_hear_1 rfl rfl ?_
  refine a_iload_n (pc := 2) dX6_hear_2 rfl rfl ?_
  refine a_callI2 (pc := 3) ck_X6_63 ⟨(Nat.le_of_ble_eq_true rfl), (Nat.le_of_ble_eq_true rfl)⟩ (by assumption) (by decide) (Nat.le_of_ble_eq_true rfl) dX6_hear_3 rfl (c_X6_isPair h0 (by omega)) ?_
  rintro r u ⟨hr, rfl⟩
  have hr1 : r = 1 := by
    rcases hr with q | q
    · exact q.1
    · exact absurd ⟨⟨i, hi, rfl⟩, ⟨j, hj, rfl⟩, nI_ne (by omega) (by omega) hij⟩ q.2
  subst hr1
  refine a_if_eq (pc := 6) (tgt := 18) dX6_hear_6 (by decide) (fun c_6 => ?_) (fun c_6 => ?_)
  · exact absurd c_6 (by decide)
  · refine a_iload_n (pc := 9) dX6_hear_9 rfl rfl ?_
    refine a_if_lt (pc := 10) (tgt := 18) dX6_hear_10 (by decide) (fun c_10 => ?_) (fun c_10 => ?_)
    · exact absurd c_10 (by decide)
    · refine a_iload_n (pc := 13) dX6_hear_13 rfl rfl ?_
      refine a_iconst (pc := 14) (v := 1) dX6_hear_14 (by decide) ?_
      refine a_icmp_le (pc := 15) (tgt := 20) dX6_hear_15 (by decide) (fun c_15 => ?_) (fun c_15 => ?_)
      · refine a_iload_n (pc := 20) dX6_hear_20 rfl rfl ?_
        refine a_iconst (pc := 21) (v := 1) dX6_hear_21 (by decide) ?_
        refine a_icmp_ne (pc := 22) (tgt := 29) dX6_hear_22 (by decide) (fun c_22 => ?_) (fun c_22 => ?_)
        · refine a_iconst (pc := 29) (v := 0) dX6_hear_29 (by decide) ?_
          refine a_istore (pc := 30) (al' := [some (.ref _), some (.int _), some (.int _), some (.int _), some (.int _)]) dX6_hear_30 (by decide) rfl rfl ?_
          refine a_aload_n (pc := 32) dX6_hear_32 rfl rfl ?_
          refine a_getr (pc := 33) fl_X6_16 (by assumption) (by decide) (by rfl) dX6_hear_33 ?_
          refine a_iload_n (pc := 36) dX6_hear_36 rfl rfl ?_
          refine a_iload_n (pc := 37) dX6_hear_37 rfl rfl ?_
          refine a_callI2 (pc := 38) ck_X6_67 ⟨(Nat.le_of_ble_eq_true rfl), (Nat.le_of_ble_eq_true rfl)⟩ (by assumption) (by decide) (Nat.le_of_ble_eq_true rfl) dX6_hear_38 rfl (c_X2_hears net_2 (by omega)) ?_
          rintro r u ⟨hr, rfl⟩
          have hr2 : r = 0 := by
            rcases hr with q | q
            · first | exact q.1 | exact absurd q.2 hs
            · first | exact q.1 | exact absurd hs q.2
          subst hr2
          refine a_iload (pc := 41) dX6_hear_41 rfl ?_
          refine a_icmp_ne (pc := 43) (tgt := 49) dX6_hear_43 (by decide) (fun c_43 => ?_) (fun c_43 => ?_)
          · exact absurd c_43 (by decide)
          · refine a_bipush (pc := 46) (v := -2) dX6_hear_46 (by decide) ?_
            refine a_iret (pc := 48) rfl dX6_hear_48 ?_
            exact ⟨rfl, rfl⟩
        · exact absurd c_22 (by decide)
      · exact absurd c_15 (by decide)

set_option maxHeartbeats 4000000 in
set_option maxRecDepth 100000 in
theorem c_X7_hearS0 {ν : Mem} {N i j : Nat} (h0 : ν 0 2 = nI N) (hN : N ≤ 6) (hi : i < N) (hj : j < N) (hij : i ≠ j) (hs : ¬ bitF (ν 2 (420 + i)) (nI j)) : Con shM mX7_hear [.ref 0, .int (nI i), .int (nI j), .int 0] ν (fun r u => r = -2 ∧ ν = u) := by
  have m0 : shM[0]? = some (7, 18, [none, some 1, none, none, none, none, none, some 2, some 3, none, none, some 4, none, none, some 5, some 6, some 7, some 8]) := rfl
  have m1 : shM[1]? = some (100, 200, []) := rfl
  have m2 : shM[2]? = some (100, 1320, []) := rfl
  have m3 : shM[3]? = some (100, 1760, []) := rfl
  have m4 : shM[4]? = some (100, 4, []) := rfl
  have m5 : shM[5]? = some (100, 6, []) := rfl
  have m6 : shM[6]? = some (100, 6, []) := rfl
  have m7 : shM[7]? = some (100, 6, []) := rfl
  have m8 : shM[8]? = some (100, 6, []) := rfl
  refine Con.ofAW (al0 := [some (.ref 0), some (.int (nI i)), some (.int (nI j)), some (.int 0)]) (by decide) rfl (Nat.le_of_ble_eq_true rfl) rfl ?_
  refine a_aload_n (pc := 0) dX7_hear_0 rfl rfl ?_
  refine a_iload_n (pc := 1) dX7_hear_1 rfl rfl ?_
  refine a_iload_n (pc := 2) dX7_hear_2 rfl rfl ?_
  refine a_callI2 (pc := 3) ck_X7_178 ⟨(Nat.le_of_ble_eq_true rfl), (Nat.le_of_ble_eq_true rfl)⟩ (by assumption) (by decide) (Nat.le_of_ble_eq_true rfl) dX7_hear_3 rfl (c_X7_areTwo h0 (by omega) (by omega)) ?_
  rintro r u ⟨hr, rfl⟩
  have hr1 : r = 1 := by
    rcases hr with q | q
    · exact q.1
    · exact absurd ⟨⟨i, hi, rfl⟩, ⟨j, hj, rfl⟩, nI_ne (by omega) (by omega) hij⟩ q.2
  subst hr1
  refine a_if_eq (pc := 6) (tgt := 18) dX7_hear_6 (by decide) (fun c_6 => ?_) (fun c_6 => ?_)
  · exact absurd c_6 (by decide)
  · refine a_iload_n (pc := 9) dX7_hear_9 rfl rfl ?_
    refine a_iconst (pc := 10) (v := 0) dX7_hear_10 (by decide) ?_
    refine a_iconst (pc := 11) (v := 1) dX7_hear_11 (by decide) ?_
    refine a_callS3 (pc := 12) cs_X7_94 ⟨(Nat.le_of_ble_eq_true rfl), (Nat.le_of_ble_eq_true rfl)⟩ (Nat.le_of_ble_eq_true rfl) dX7_hear_12 rfl c_X7_isIn ?_
    rintro r u ⟨hr, rfl⟩
    have hr1 := isin_y hr (by decide)
    subst hr1
    refine a_if_ne (pc := 15) (tgt := 20) dX7_hear_15 (by decide) (fun c_15 => ?_) (fun c_15 => ?_)
    · refine a_aload_n (pc := 20) dX7_hear_20 rfl rfl ?_
      refine a_getr (pc := 21) fl_X7_13 (by assumption) (by decide) (by rfl) dX7_hear_21 ?_
      refine a_sipush (pc := 24) (v := 420) dX7_hear_24 (by decide) ?_
      refine a_iload_n (pc := 27) dX7_hear_27 rfl rfl ?_
      refine a_iaddN (pc := 28) (a := 420) (b := _) rfl rfl dX7_hear_28 ?_
      refine a_iald (pc := 29)  (by assumption) rfl (by omega) (by decide) dX7_hear_29 ?_
      refine a_iload_n (pc := 30) dX7_hear_30 rfl rfl ?_
      refine a_callS2 (pc := 31) cs_X7_105 ⟨(Nat.le_of_ble_eq_true rfl), (Nat.le_of_ble_eq_true rfl)⟩ (Nat.le_of_ble_eq_true rfl) dX7_hear_31 rfl c_X7_has ?_
      rintro r u ⟨hr, rfl⟩
      have hr2 : r = 0 := by
        rcases hr with q | q
        · first | exact q.1 | exact absurd q.2 hs
        · first | exact q.1 | exact absurd hs q.2
      subst hr2
      refine a_iload_n (pc := 34) dX7_hear_34 rfl rfl ?_
      refine a_iconst (pc := 35) (v := 1) dX7_hear_35 (by decide) ?_
      refine a_icmp_ne (pc := 36) (tgt := 43) dX7_hear_36 (by decide) (fun c_36 => ?_) (fun c_36 => ?_)
      · refine a_iconst (pc := 43) (v := 0) dX7_hear_43 (by decide) ?_
        refine a_icmp_eq (pc := 44) (tgt := 69) dX7_hear_44 (by decide) (fun c_44 => ?_) (fun c_44 => ?_)
        · refine a_bipush (pc := 69) (v := -2) dX7_hear_69 (by decide) ?_
          refine a_iret (pc := 71) rfl dX7_hear_71 ?_
          exact ⟨rfl, rfl⟩
        · exact absurd c_44 (by decide)
      · exact absurd c_36 (by decide)
    · exact absurd c_15 (by decide)

set_option maxHeartbeats 4000000 in
set_option maxRecDepth 100000 in
theorem c_X6_hearS1 {μ : Mem} {N i j : Nat} (h0 : μ 2 0 = nI N) (hN : N ≤ 6) (hi : i < N) (hj : j < N) (hij : i ≠ j) (hs : bitF (μ (stA 2 i) 0) (nI j)) : Con shC mX6_hear [.ref 0, .int (nI i), .int (nI j), .int 1] μ (fun r u => r = -2 ∧ μ = u) := by
  have z0 : shC[0]? = some (6, 8, [some 1, none, some 2, some 53, some 104, some 106, none, none]) := rfl
  have hn := net_2
  obtain ⟨hn0, hn1, hn2, hnS⟩ := id hn
  refine Con.ofAW (al0 := [some (.ref 0), some (.int (nI i)), some (.int (nI j)), some (.int 1), none]) (by decide) rfl (Nat.le_of_ble_eq_true rfl) rfl ?_
  refine a_aload_n (pc := 0) dX6_hear_0 rfl rfl ?_
  refine a_iload_n (pc := 1) dX6_hear_1 rfl rfl ?_
  refine a_iload_n (pc := 2) dX6_hear_2 rfl rfl ?_
  refine a_callI2 (pc := 3) ck_X6_63 ⟨(Nat.le_of_ble_eq_true rfl), (Nat.le_of_ble_eq_true rfl)⟩ (by assumption) (by decide) (Nat.le_of_ble_eq_true rfl) dX6_hear_3 rfl (c_X6_isPair h0 (by omega)) ?_
  rintro r u ⟨hr, rfl⟩
  have hr1 : r = 1 := by
    rcases hr with q | q
    · exact q.1
    · exact absurd ⟨⟨i, hi, rfl⟩, ⟨j, hj, rfl⟩, nI_ne (by omega) (by omega) hij⟩ q.2
  subst hr1
  refine a_if_eq (pc := 6) (tgt := 18) dX6_hear_6 (by decide) (fun c_6 => ?_) (fun c_6 => ?_)
  · exact absurd c_6 (by decide)
  · refine a_iload_n (pc := 9) dX6_hear_9 rfl rfl ?_
    refine a_if_lt (pc := 10) (tgt := 18) dX6_hear_10 (by decide) (fun c_10 => ?_) (fun c_10 => ?_)
    · exact absurd c_10 (by decide)
    · refine a_iload_n (pc := 13) dX6_hear_13 rfl rfl ?_
      refine a_iconst (pc := 14) (v := 1) dX6_hear_14 (by decide) ?_
      refine a_icmp_le (pc := 15) (tgt := 20) dX6_hear_15 (by decide) (fun c_15 => ?_) (fun c_15 => ?_)
      · refine a_iload_n (pc := 20) dX6_hear_20 rfl rfl ?_
        refine a_iconst (pc := 21) (v := 1) dX6_hear_21 (by decide) ?_
        refine a_icmp_ne (pc := 22) (tgt := 29) dX6_hear_22 (by decide) (fun c_22 => ?_) (fun c_22 => ?_)
        · exact absurd c_22 (by decide)
        · refine a_iconst (pc := 25) (v := 1) dX6_hear_25 (by decide) ?_
          refine a_goto (pc := 26) (tgt := 30) dX6_hear_26 (by decide) ?_
          refine a_istore (pc := 30) (al' := [some (.ref _), some (.int _), some (.int _), some (.int _), some (.int _)]) dX6_hear_30 (by decide) rfl rfl ?_
          refine a_aload_n (pc := 32) dX6_hear_32 rfl rfl ?_
          refine a_getr (pc := 33) fl_X6_16 (by assumption) (by decide) (by rfl) dX6_hear_33 ?_
          refine a_iload_n (pc := 36) dX6_hear_36 rfl rfl ?_
          refine a_iload_n (pc := 37) dX6_hear_37 rfl rfl ?_
          refine a_callI2 (pc := 38) ck_X6_67 ⟨(Nat.le_of_ble_eq_true rfl), (Nat.le_of_ble_eq_true rfl)⟩ (by assumption) (by decide) (Nat.le_of_ble_eq_true rfl) dX6_hear_38 rfl (c_X2_hears net_2 (by omega)) ?_
          rintro r u ⟨hr, rfl⟩
          have hr2 : r = 1 := by
            rcases hr with q | q
            · first | exact q.1 | exact absurd q.2 hs
            · first | exact q.1 | exact absurd hs q.2
          subst hr2
          refine a_iload (pc := 41) dX6_hear_41 rfl ?_
          refine a_icmp_ne (pc := 43) (tgt := 49) dX6_hear_43 (by decide) (fun c_43 => ?_) (fun c_43 => ?_)
          · exact absurd c_43 (by decide)
          · refine a_bipush (pc := 46) (v := -2) dX6_hear_46 (by decide) ?_
            refine a_iret (pc := 48) rfl dX6_hear_48 ?_
            exact ⟨rfl, rfl⟩
      · exact absurd c_15 (by decide)

set_option maxHeartbeats 4000000 in
set_option maxRecDepth 100000 in
theorem c_X7_hearS1 {ν : Mem} {N i j : Nat} (h0 : ν 0 2 = nI N) (hN : N ≤ 6) (hi : i < N) (hj : j < N) (hij : i ≠ j) (hs : bitF (ν 2 (420 + i)) (nI j)) : Con shM mX7_hear [.ref 0, .int (nI i), .int (nI j), .int 1] ν (fun r u => r = -2 ∧ ν = u) := by
  have m0 : shM[0]? = some (7, 18, [none, some 1, none, none, none, none, none, some 2, some 3, none, none, some 4, none, none, some 5, some 6, some 7, some 8]) := rfl
  have m1 : shM[1]? = some (100, 200, []) := rfl
  have m2 : shM[2]? = some (100, 1320, []) := rfl
  have m3 : shM[3]? = some (100, 1760, []) := rfl
  have m4 : shM[4]? = some (100, 4, []) := rfl
  have m5 : shM[5]? = some (100, 6, []) := rfl
  have m6 : shM[6]? = some (100, 6, []) := rfl
  have m7 : shM[7]? = some (100, 6, []) := rfl
  have m8 : shM[8]? = some (100, 6, []) := rfl
  refine Con.ofAW (al0 := [some (.ref 0), some (.int (nI i)), some (.int (nI j)), some (.int 1)]) (by decide) rfl (Nat.le_of_ble_eq_true rfl) rfl ?_
  refine a_aload_n (pc := 0) dX7_hear_0 rfl rfl ?_
  refine a_iload_n (pc := 1) dX7_hear_1 rfl rfl ?_
  refine a_iload_n (pc := 2) dX7_hear_2 rfl rfl ?_
  refine a_callI2 (pc := 3) ck_X7_178 ⟨(Nat.le_of_ble_eq_true rfl), (Nat.le_of_ble_eq_true rfl)⟩ (by assumption) (by decide) (Nat.le_of_ble_eq_true rfl) dX7_hear_3 rfl (c_X7_areTwo h0 (by omega) (by omega)) ?_
  rintro r u ⟨hr, rfl⟩
  have hr1 : r = 1 := by
    rcases hr with q | q
    · exact q.1
    · exact absurd ⟨⟨i, hi, rfl⟩, ⟨j, hj, rfl⟩, nI_ne (by omega) (by omega) hij⟩ q.2
  subst hr1
  refine a_if_eq (pc := 6) (tgt := 18) dX7_hear_6 (by decide) (fun c_6 => ?_) (fun c_6 => ?_)
  · exact absurd c_6 (by decide)
  · refine a_iload_n (pc := 9) dX7_hear_9 rfl rfl ?_
    refine a_iconst (pc := 10) (v := 0) dX7_hear_10 (by decide) ?_
    refine a_iconst (pc := 11) (v := 1) dX7_hear_11 (by decide) ?_
    refine a_callS3 (pc := 12) cs_X7_94 ⟨(Nat.le_of_ble_eq_true rfl), (Nat.le_of_ble_eq_true rfl)⟩ (Nat.le_of_ble_eq_true rfl) dX7_hear_12 rfl c_X7_isIn ?_
    rintro r u ⟨hr, rfl⟩
    have hr1 := isin_y hr (by decide)
    subst hr1
    refine a_if_ne (pc := 15) (tgt := 20) dX7_hear_15 (by decide) (fun c_15 => ?_) (fun c_15 => ?_)
    · refine a_aload_n (pc := 20) dX7_hear_20 rfl rfl ?_
      refine a_getr (pc := 21) fl_X7_13 (by assumption) (by decide) (by rfl) dX7_hear_21 ?_
      refine a_sipush (pc := 24) (v := 420) dX7_hear_24 (by decide) ?_
      refine a_iload_n (pc := 27) dX7_hear_27 rfl rfl ?_
      refine a_iaddN (pc := 28) (a := 420) (b := _) rfl rfl dX7_hear_28 ?_
      refine a_iald (pc := 29)  (by assumption) rfl (by omega) (by decide) dX7_hear_29 ?_
      refine a_iload_n (pc := 30) dX7_hear_30 rfl rfl ?_
      refine a_callS2 (pc := 31) cs_X7_105 ⟨(Nat.le_of_ble_eq_true rfl), (Nat.le_of_ble_eq_true rfl)⟩ (Nat.le_of_ble_eq_true rfl) dX7_hear_31 rfl c_X7_has ?_
      rintro r u ⟨hr, rfl⟩
      have hr2 : r = 1 := by
        rcases hr with q | q
        · first | exact q.1 | exact absurd q.2 hs
        · first | exact q.1 | exact absurd hs q.2
      subst hr2
      refine a_iload_n (pc := 34) dX7_hear_34 rfl rfl ?_
      refine a_iconst (pc := 35) (v := 1) dX7_hear_35 (by decide) ?_
      refine a_icmp_ne (pc := 36) (tgt := 43) dX7_hear_36 (by decide) (fun c_36 => ?_) (fun c_36 => ?_)
      · exact absurd c_36 (by decide)
      · refine a_iconst (pc := 39) (v := 1) dX7_hear_39 (by decide) ?_
        refine a_goto (pc := 40) (tgt := 44) dX7_hear_40 (by decide) ?_
        refine a_icmp_eq (pc := 44) (tgt := 69) dX7_hear_44 (by decide) (fun c_44 => ?_) (fun c_44 => ?_)
        · refine a_bipush (pc := 69) (v := -2) dX7_hear_69 (by decide) ?_
          refine a_iret (pc := 71) rfl dX7_hear_71 ?_
          exact ⟨rfl, rfl⟩
        · exact absurd c_44 (by decide)
    · exact absurd c_15 (by decide)

set_option maxHeartbeats 4000000 in
set_option maxRecDepth 100000 in
theorem c_X6_hearL {μ : Mem} {N i j si sj : Nat} (h0 : μ 2 0 = nI N) (hN : N ≤ 6) (hi : i < N) (hj : j < N) (hij : i ≠ j) (s1 : μ (stA 2 i + 1) 0 = nI si) (s2 : si ≤ 6) (t1 : μ (stA 2 j + 1) 0 = nI sj) (t2 : sj ≤ 6) (hs : bitF (μ (stA 2 i) 0) (nI j)) (hh : (hasP (μ (stA 2 i + 2)) si (nI j) ∨ hasP (μ (stA 2 j + 2)) sj (nI i))) : Con shC mX6_hear [.ref 0, .int (nI i), .int (nI j), .int 0] μ (fun r u => r = -2 ∧ μ = u) := by
  have z0 : shC[0]? = some (6, 8, [some 1, none, some 2, some 53, some 104, some 106, none, none]) := rfl
  have hn := net_2
  obtain ⟨hn0, hn1, hn2, hnS⟩ := id hn
  have wi := hnS i (by omega)
  have w0 := wi.1
  have w1 := wi.2.1.1
  have wj := hnS j (by omega)
  have v0 := wj.1
  have v1 := wj.2.1.1
  refine Con.ofAW (al0 := [some (.ref 0), some (.int (nI i)), some (.int (nI j)), some (.int 0), none]) (by decide) rfl (Nat.le_of_ble_eq_true rfl) rfl ?_
  refine a_aload_n (pc := 0) dX6_hear_0 rfl rfl ?_
  refine a_iload_n (pc := 1) dX6_hear_1 rfl rfl ?_
  refine a_iload_n (pc := 2) dX6_hear_2 rfl rfl ?_
  refine a_callI2 (pc := 3) ck_X6_63 ⟨(Nat.le_of_ble_eq_true rfl), (Nat.le_of_ble_eq_true rfl)⟩ (by assumption) (by decide) (Nat.le_of_ble_eq_true rfl) dX6_hear_3 rfl (c_X6_isPair h0 (by omega)) ?_
  rintro r u ⟨hr, rfl⟩
  have hr1 : r = 1 := by
    rcases hr with q | q
    · exact q.1
    · exact absurd ⟨⟨i, hi, rfl⟩, ⟨j, hj, rfl⟩, nI_ne (by omega) (by omega) hij⟩ q.2
  subst hr1
  refine a_if_eq (pc := 6) (tgt := 18) dX6_hear_6 (by decide) (fun c_6 => ?_) (fun c_6 => ?_)
  · exact absurd c_6 (by decide)
  · refine a_iload_n (pc := 9) dX6_hear_9 rfl rfl ?_
    refine a_if_lt (pc := 10) (tgt := 18) dX6_hear_10 (by decide) (fun c_10 => ?_) (fun c_10 => ?_)
    · exact absurd c_10 (by decide)
    · refine a_iload_n (pc := 13) dX6_hear_13 rfl rfl ?_
      refine a_iconst (pc := 14) (v := 1) dX6_hear_14 (by decide) ?_
      refine a_icmp_le (pc := 15) (tgt := 20) dX6_hear_15 (by decide) (fun c_15 => ?_) (fun c_15 => ?_)
      · refine a_iload_n (pc := 20) dX6_hear_20 rfl rfl ?_
        refine a_iconst (pc := 21) (v := 1) dX6_hear_21 (by decide) ?_
        refine a_icmp_ne (pc := 22) (tgt := 29) dX6_hear_22 (by decide) (fun c_22 => ?_) (fun c_22 => ?_)
        · refine a_iconst (pc := 29) (v := 0) dX6_hear_29 (by decide) ?_
          refine a_istore (pc := 30) (al' := [some (.ref _), some (.int _), some (.int _), some (.int _), some (.int _)]) dX6_hear_30 (by decide) rfl rfl ?_
          refine a_aload_n (pc := 32) dX6_hear_32 rfl rfl ?_
          refine a_getr (pc := 33) fl_X6_16 (by assumption) (by decide) (by rfl) dX6_hear_33 ?_
          refine a_iload_n (pc := 36) dX6_hear_36 rfl rfl ?_
          refine a_iload_n (pc := 37) dX6_hear_37 rfl rfl ?_
          refine a_callI2 (pc := 38) ck_X6_67 ⟨(Nat.le_of_ble_eq_true rfl), (Nat.le_of_ble_eq_true rfl)⟩ (by assumption) (by decide) (Nat.le_of_ble_eq_true rfl) dX6_hear_38 rfl (c_X2_hears net_2 (by omega)) ?_
          rintro r u ⟨hr, rfl⟩
          have hr2 : r = 1 := by
            rcases hr with q | q
            · first | exact q.1 | exact absurd q.2 hs
            · first | exact q.1 | exact absurd hs q.2
          subst hr2
          refine a_iload (pc := 41) dX6_hear_41 rfl ?_
          refine a_icmp_ne (pc := 43) (tgt := 49) dX6_hear_43 (by decide) (fun c_43 => ?_) (fun c_43 => ?_)
          · refine a_iload (pc := 49) dX6_hear_49 rfl ?_
            refine a_if_ne (pc := 51) (tgt := 95) dX6_hear_51 (by decide) (fun c_51 => ?_) (fun c_51 => ?_)
            · exact absurd c_51 (by decide)
            · refine a_aload_n (pc := 54) dX6_hear_54 rfl rfl ?_
              refine a_getr (pc := 55) fl_X6_16 (by assumption) (by decide) (by rfl) dX6_hear_55 ?_
              refine a_getr (pc := 58) fl_X6_70 (by assumption) (by decide) (by rfl) dX6_hear_58 ?_
              refine a_iload_n (pc := 61) dX6_hear_61 rfl rfl ?_
              refine a_aald2 (pc := 62)  (by assumption) rfl (by omega) (by decide) (all_at (by omega)) dX6_hear_62 ?_
              refine a_getr (pc := 63) fl_X6_74 (by assumption) (by decide) (by rfl) dX6_hear_63 ?_
              refine a_iload_n (pc := 66) dX6_hear_66 rfl rfl ?_
              refine a_callI1 (pc := 67) ck_X6_96 ⟨(Nat.le_of_ble_eq_true rfl), (Nat.le_of_ble_eq_true rfl)⟩ (by assumption) (by decide) (Nat.le_of_ble_eq_true rfl) dX6_hear_67 rfl (c_X0_hasOneTo wi.2.1 s1 s2) ?_
              rintro r1 u ⟨hr1, rfl⟩
              refine a_if_ne (pc := 70) (tgt := 92) dX6_hear_70 (by decide) (fun c_70 => ?_) (fun c_70 => ?_)
              · refine a_bipush (pc := 92) (v := -2) dX6_hear_92 (by decide) ?_
                refine a_iret (pc := 94) rfl dX6_hear_94 ?_
                exact ⟨rfl, rfl⟩
              · refine a_aload_n (pc := 73) dX6_hear_73 rfl rfl ?_
                refine a_getr (pc := 74) fl_X6_16 (by assumption) (by decide) (by rfl) dX6_hear_74 ?_
                refine a_getr (pc := 77) fl_X6_70 (by assumption) (by decide) (by rfl) dX6_hear_77 ?_
                refine a_iload_n (pc := 80) dX6_hear_80 rfl rfl ?_
                refine a_aald2 (pc := 81)  (by assumption) rfl (by omega) (by decide) (all_at (by omega)) dX6_hear_81 ?_
                refine a_getr (pc := 82) fl_X6_74 (by assumption) (by decide) (by rfl) dX6_hear_82 ?_
                refine a_iload_n (pc := 85) dX6_hear_85 rfl rfl ?_
                refine a_callI1 (pc := 86) ck_X6_96 ⟨(Nat.le_of_ble_eq_true rfl), (Nat.le_of_ble_eq_true rfl)⟩ (by assumption) (by decide) (Nat.le_of_ble_eq_true rfl) dX6_hear_86 rfl (c_X0_hasOneTo wj.2.1 t1 t2) ?_
                rintro r2 u ⟨hr2, rfl⟩
                refine a_if_eq (pc := 89) (tgt := 95) dX6_hear_89 (by decide) (fun c_89 => ?_) (fun c_89 => ?_)
                · exfalso
                  clear s1 t1
                  simp_all
                · refine a_bipush (pc := 92) (v := -2) dX6_hear_92 (by decide) ?_
                  refine a_iret (pc := 94) rfl dX6_hear_94 ?_
                  exact ⟨rfl, rfl⟩
          · exact absurd c_43 (by decide)
        · exact absurd c_22 (by decide)
      · exact absurd c_15 (by decide)

set_option maxHeartbeats 4000000 in
set_option maxRecDepth 100000 in
theorem c_X7_hearL {ν : Mem} {N i j si sj : Nat} (h0 : ν 0 2 = nI N) (hN : N ≤ 6) (hi : i < N) (hj : j < N) (hij : i ≠ j) (s1 : ν 2 (440 * 0 + 70 * i + 8) = nI si) (s2 : si ≤ 6) (t1 : ν 2 (440 * 0 + 70 * j + 8) = nI sj) (t2 : sj ≤ 6) (hs : bitF (ν 2 (420 + i)) (nI j)) (hh : (hasP (fun k => ν 2 (440 * 0 + 70 * i + 9 + 2 * k)) si (nI j) ∨ hasP (fun k => ν 2 (440 * 0 + 70 * j + 9 + 2 * k)) sj (nI i))) : Con shM mX7_hear [.ref 0, .int (nI i), .int (nI j), .int 0] ν (fun r u => r = -2 ∧ ν = u) := by
  have m0 : shM[0]? = some (7, 18, [none, some 1, none, none, none, none, none, some 2, some 3, none, none, some 4, none, none, some 5, some 6, some 7, some 8]) := rfl
  have m1 : shM[1]? = some (100, 200, []) := rfl
  have m2 : shM[2]? = some (100, 1320, []) := rfl
  have m3 : shM[3]? = some (100, 1760, []) := rfl
  have m4 : shM[4]? = some (100, 4, []) := rfl
  have m5 : shM[5]? = some (100, 6, []) := rfl
  have m6 : shM[6]? = some (100, 6, []) := rfl
  have m7 : shM[7]? = some (100, 6, []) := rfl
  have m8 : shM[8]? = some (100, 6, []) := rfl
  refine Con.ofAW (al0 := [some (.ref 0), some (.int (nI i)), some (.int (nI j)), some (.int 0)]) (by decide) rfl (Nat.le_of_ble_eq_true rfl) rfl ?_
  refine a_aload_n (pc := 0) dX7_hear_0 rfl rfl ?_
  refine a_iload_n (pc := 1) dX7_hear_1 rfl rfl ?_
  refine a_iload_n (pc := 2) dX7_hear_2 rfl rfl ?_
  refine a_callI2 (pc := 3) ck_X7_178 ⟨(Nat.le_of_ble_eq_true rfl), (Nat.le_of_ble_eq_true rfl)⟩ (by assumption) (by decide) (Nat.le_of_ble_eq_true rfl) dX7_hear_3 rfl (c_X7_areTwo h0 (by omega) (by omega)) ?_
  rintro r u ⟨hr, rfl⟩
  have hr1 : r = 1 := by
    rcases hr with q | q
    · exact q.1
    · exact absurd ⟨⟨i, hi, rfl⟩, ⟨j, hj, rfl⟩, nI_ne (by omega) (by omega) hij⟩ q.2
  subst hr1
  refine a_if_eq (pc := 6) (tgt := 18) dX7_hear_6 (by decide) (fun c_6 => ?_) (fun c_6 => ?_)
  · exact absurd c_6 (by decide)
  · refine a_iload_n (pc := 9) dX7_hear_9 rfl rfl ?_
    refine a_iconst (pc := 10) (v := 0) dX7_hear_10 (by decide) ?_
    refine a_iconst (pc := 11) (v := 1) dX7_hear_11 (by decide) ?_
    refine a_callS3 (pc := 12) cs_X7_94 ⟨(Nat.le_of_ble_eq_true rfl), (Nat.le_of_ble_eq_true rfl)⟩ (Nat.le_of_ble_eq_true rfl) dX7_hear_12 rfl c_X7_isIn ?_
    rintro r u ⟨hr, rfl⟩
    have hr1 := isin_y hr (by decide)
    subst hr1
    refine a_if_ne (pc := 15) (tgt := 20) dX7_hear_15 (by decide) (fun c_15 => ?_) (fun c_15 => ?_)
    · refine a_aload_n (pc := 20) dX7_hear_20 rfl rfl ?_
      refine a_getr (pc := 21) fl_X7_13 (by assumption) (by decide) (by rfl) dX7_hear_21 ?_
      refine a_sipush (pc := 24) (v := 420) dX7_hear_24 (by decide) ?_
      refine a_iload_n (pc := 27) dX7_hear_27 rfl rfl ?_
      refine a_iaddN (pc := 28) (a := 420) (b := _) rfl rfl dX7_hear_28 ?_
      refine a_iald (pc := 29)  (by assumption) rfl (by omega) (by decide) dX7_hear_29 ?_
      refine a_iload_n (pc := 30) dX7_hear_30 rfl rfl ?_
      refine a_callS2 (pc := 31) cs_X7_105 ⟨(Nat.le_of_ble_eq_true rfl), (Nat.le_of_ble_eq_true rfl)⟩ (Nat.le_of_ble_eq_true rfl) dX7_hear_31 rfl c_X7_has ?_
      rintro r u ⟨hr, rfl⟩
      have hr2 : r = 1 := by
        rcases hr with q | q
        · first | exact q.1 | exact absurd q.2 hs
        · first | exact q.1 | exact absurd hs q.2
      subst hr2
      refine a_iload_n (pc := 34) dX7_hear_34 rfl rfl ?_
      refine a_iconst (pc := 35) (v := 1) dX7_hear_35 (by decide) ?_
      refine a_icmp_ne (pc := 36) (tgt := 43) dX7_hear_36 (by decide) (fun c_36 => ?_) (fun c_36 => ?_)
      · refine a_iconst (pc := 43) (v := 0) dX7_hear_43 (by decide) ?_
        refine a_icmp_eq (pc := 44) (tgt := 69) dX7_hear_44 (by decide) (fun c_44 => ?_) (fun c_44 => ?_)
        · exact absurd c_44 (by decide)
        · refine a_iload_n (pc := 47) dX7_hear_47 rfl rfl ?_
          refine a_if_ne (pc := 48) (tgt := 72) dX7_hear_48 (by decide) (fun c_48 => ?_) (fun c_48 => ?_)
          · exact absurd c_48 (by decide)
          · refine a_aload_n (pc := 51) dX7_hear_51 rfl rfl ?_
            refine a_iload_n (pc := 52) dX7_hear_52 rfl rfl ?_
            refine a_iload_n (pc := 53) dX7_hear_53 rfl rfl ?_
            refine a_callI2 (pc := 54) ck_X7_187 ⟨(Nat.le_of_ble_eq_true rfl), (Nat.le_of_ble_eq_true rfl)⟩ (by assumption) (by decide) (Nat.le_of_ble_eq_true rfl) dX7_hear_54 rfl (c_X7_hasFor (by omega) s1 s2) ?_
            rintro r1 u ⟨hr1, rfl⟩
            refine a_if_ne (pc := 57) (tgt := 69) dX7_hear_57 (by decide) (fun c_57 => ?_) (fun c_57 => ?_)
            · refine a_bipush (pc := 69) (v := -2) dX7_hear_69 (by decide) ?_
              refine a_iret (pc := 71) rfl dX7_hear_71 ?_
              exact ⟨rfl, rfl⟩
            · refine a_aload_n (pc := 60) dX7_hear_60 rfl rfl ?_
              refine a_iload_n (pc := 61) dX7_hear_61 rfl rfl ?_
              refine a_iload_n (pc := 62) dX7_hear_62 rfl rfl ?_
              refine a_callI2 (pc := 63) ck_X7_187 ⟨(Nat.le_of_ble_eq_true rfl), (Nat.le_of_ble_eq_true rfl)⟩ (by assumption) (by decide) (Nat.le_of_ble_eq_true rfl) dX7_hear_63 rfl (c_X7_hasFor (by omega) t1 t2) ?_
              rintro r2 u ⟨hr2, rfl⟩
              refine a_if_eq (pc := 66) (tgt := 72) dX7_hear_66 (by decide) (fun c_66 => ?_) (fun c_66 => ?_)
              · exfalso
                clear s1 t1
                simp_all
              · refine a_bipush (pc := 69) (v := -2) dX7_hear_69 (by decide) ?_
                refine a_iret (pc := 71) rfl dX7_hear_71 ?_
                exact ⟨rfl, rfl⟩
      · exact absurd c_36 (by decide)
    · exact absurd c_15 (by decide)

set_option maxHeartbeats 4000000 in
set_option maxRecDepth 100000 in
theorem c_X6_hear0 {μ : Mem} {U : Mem → Prop} (hU : Con shC mX6_remember [.ref 0] μ (fun _ u => U u)) (hf : ∀ u, U u → ∀ x, 1 ≤ x → x ≤ 106 → u x = μ x)  {N i j si sj : Nat} (h0 : μ 2 0 = nI N) (hN : N ≤ 6) (hi : i < N) (hj : j < N) (hij : i ≠ j) (s1 : μ (stA 2 i + 1) 0 = nI si) (s2 : si ≤ 6) (t1 : μ (stA 2 j + 1) 0 = nI sj) (t2 : sj ≤ 6) (hs : bitF (μ (stA 2 i) 0) (nI j)) (hh : ¬ (hasP (μ (stA 2 i + 2)) si (nI j) ∨ hasP (μ (stA 2 j + 2)) sj (nI i))) : Con shC mX6_hear [.ref 0, .int (nI i), .int (nI j), .int 0] μ (fun r u => ∃ v, U v ∧ u = offF v 2 i j ∧ r = nI (ouC (ndC u 2 0) N N)) := by
  have z0 : shC[0]? = some (6, 8, [some 1, none, some 2, some 53, some 104, some 106, none, none]) := rfl
  have hn := net_2
  obtain ⟨hn0, hn1, hn2, hnS⟩ := id hn
  have wi := hnS i (by omega)
  have w0 := wi.1
  have w1 := wi.2.1.1
  have wj := hnS j (by omega)
  have v0 := wj.1
  have v1 := wj.2.1.1
  refine Con.ofAW (al0 := [some (.ref 0), some (.int (nI i)), some (.int (nI j)), some (.int 0), none]) (by decide) rfl (Nat.le_of_ble_eq_true rfl) rfl ?_
  refine a_aload_n (pc := 0) dX6_hear_0 rfl rfl ?_
  refine a_iload_n (pc := 1) dX6_hear_1 rfl rfl ?_
  refine a_iload_n (pc := 2) dX6_hear_2 rfl rfl ?_
  refine a_callI2 (pc := 3) ck_X6_63 ⟨(Nat.le_of_ble_eq_true rfl), (Nat.le_of_ble_eq_true rfl)⟩ (by assumption) (by decide) (Nat.le_of_ble_eq_true rfl) dX6_hear_3 rfl (c_X6_isPair h0 (by omega)) ?_
  rintro r u ⟨hr, rfl⟩
  have hr1 : r = 1 := by
    rcases hr with q | q
    · exact q.1
    · exact absurd ⟨⟨i, hi, rfl⟩, ⟨j, hj, rfl⟩, nI_ne (by omega) (by omega) hij⟩ q.2
  subst hr1
  refine a_if_eq (pc := 6) (tgt := 18) dX6_hear_6 (by decide) (fun c_6 => ?_) (fun c_6 => ?_)
  · exact absurd c_6 (by decide)
  · refine a_iload_n (pc := 9) dX6_hear_9 rfl rfl ?_
    refine a_if_lt (pc := 10) (tgt := 18) dX6_hear_10 (by decide) (fun c_10 => ?_) (fun c_10 => ?_)
    · exact absurd c_10 (by decide)
    · refine a_iload_n (pc := 13) dX6_hear_13 rfl rfl ?_
      refine a_iconst (pc := 14) (v := 1) dX6_hear_14 (by decide) ?_
      refine a_icmp_le (pc := 15) (tgt := 20) dX6_hear_15 (by decide) (fun c_15 => ?_) (fun c_15 => ?_)
      · refine a_iload_n (pc := 20) dX6_hear_20 rfl rfl ?_
        refine a_iconst (pc := 21) (v := 1) dX6_hear_21 (by decide) ?_
        refine a_icmp_ne (pc := 22) (tgt := 29) dX6_hear_22 (by decide) (fun c_22 => ?_) (fun c_22 => ?_)
        · refine a_iconst (pc := 29) (v := 0) dX6_hear_29 (by decide) ?_
          refine a_istore (pc := 30) (al' := [some (.ref _), some (.int _), some (.int _), some (.int _), some (.int _)]) dX6_hear_30 (by decide) rfl rfl ?_
          refine a_aload_n (pc := 32) dX6_hear_32 rfl rfl ?_
          refine a_getr (pc := 33) fl_X6_16 (by assumption) (by decide) (by rfl) dX6_hear_33 ?_
          refine a_iload_n (pc := 36) dX6_hear_36 rfl rfl ?_
          refine a_iload_n (pc := 37) dX6_hear_37 rfl rfl ?_
          refine a_callI2 (pc := 38) ck_X6_67 ⟨(Nat.le_of_ble_eq_true rfl), (Nat.le_of_ble_eq_true rfl)⟩ (by assumption) (by decide) (Nat.le_of_ble_eq_true rfl) dX6_hear_38 rfl (c_X2_hears net_2 (by omega)) ?_
          rintro r u ⟨hr, rfl⟩
          have hr2 : r = 1 := by
            rcases hr with q | q
            · first | exact q.1 | exact absurd q.2 hs
            · first | exact q.1 | exact absurd hs q.2
          subst hr2
          refine a_iload (pc := 41) dX6_hear_41 rfl ?_
          refine a_icmp_ne (pc := 43) (tgt := 49) dX6_hear_43 (by decide) (fun c_43 => ?_) (fun c_43 => ?_)
          · refine a_iload (pc := 49) dX6_hear_49 rfl ?_
            refine a_if_ne (pc := 51) (tgt := 95) dX6_hear_51 (by decide) (fun c_51 => ?_) (fun c_51 => ?_)
            · exact absurd c_51 (by decide)
            · refine a_aload_n (pc := 54) dX6_hear_54 rfl rfl ?_
              refine a_getr (pc := 55) fl_X6_16 (by assumption) (by decide) (by rfl) dX6_hear_55 ?_
              refine a_getr (pc := 58) fl_X6_70 (by assumption) (by decide) (by rfl) dX6_hear_58 ?_
              refine a_iload_n (pc := 61) dX6_hear_61 rfl rfl ?_
              refine a_aald2 (pc := 62)  (by assumption) rfl (by omega) (by decide) (all_at (by omega)) dX6_hear_62 ?_
              refine a_getr (pc := 63) fl_X6_74 (by assumption) (by decide) (by rfl) dX6_hear_63 ?_
              refine a_iload_n (pc := 66) dX6_hear_66 rfl rfl ?_
              refine a_callI1 (pc := 67) ck_X6_96 ⟨(Nat.le_of_ble_eq_true rfl), (Nat.le_of_ble_eq_true rfl)⟩ (by assumption) (by decide) (Nat.le_of_ble_eq_true rfl) dX6_hear_67 rfl (c_X0_hasOneTo wi.2.1 s1 s2) ?_
              rintro r1 u ⟨hr1, rfl⟩
              refine a_if_ne (pc := 70) (tgt := 92) dX6_hear_70 (by decide) (fun c_70 => ?_) (fun c_70 => ?_)
              · exfalso
                clear s1 t1
                simp_all
              · refine a_aload_n (pc := 73) dX6_hear_73 rfl rfl ?_
                refine a_getr (pc := 74) fl_X6_16 (by assumption) (by decide) (by rfl) dX6_hear_74 ?_
                refine a_getr (pc := 77) fl_X6_70 (by assumption) (by decide) (by rfl) dX6_hear_77 ?_
                refine a_iload_n (pc := 80) dX6_hear_80 rfl rfl ?_
                refine a_aald2 (pc := 81)  (by assumption) rfl (by omega) (by decide) (all_at (by omega)) dX6_hear_81 ?_
                refine a_getr (pc := 82) fl_X6_74 (by assumption) (by decide) (by rfl) dX6_hear_82 ?_
                refine a_iload_n (pc := 85) dX6_hear_85 rfl rfl ?_
                refine a_callI1 (pc := 86) ck_X6_96 ⟨(Nat.le_of_ble_eq_true rfl), (Nat.le_of_ble_eq_true rfl)⟩ (by assumption) (by decide) (Nat.le_of_ble_eq_true rfl) dX6_hear_86 rfl (c_X0_hasOneTo wj.2.1 t1 t2) ?_
                rintro r2 u ⟨hr2, rfl⟩
                refine a_if_eq (pc := 89) (tgt := 95) dX6_hear_89 (by decide) (fun c_89 => ?_) (fun c_89 => ?_)
                · refine a_aload_n (pc := 95) dX6_hear_95 rfl rfl ?_
                  refine a_callV0 (pc := 96) ck_X6_85 ⟨(Nat.le_of_ble_eq_true rfl), (Nat.le_of_ble_eq_true rfl)⟩ (by assumption) (by decide) (Nat.le_of_ble_eq_true rfl) dX6_hear_96 rfl hU ?_
                  rintro v hv
                  have h0 : v 2 0 = nI N := by rw [hf v hv 2 (by omega) (by omega)]; exact h0
                  refine a_aload_n (pc := 99) dX6_hear_99 rfl rfl ?_
                  refine a_getr (pc := 100) fl_X6_16 (by assumption) (by decide) (by rfl) dX6_hear_100 ?_
                  refine a_iload_n (pc := 103) dX6_hear_103 rfl rfl ?_
                  refine a_iload_n (pc := 104) dX6_hear_104 rfl rfl ?_
                  refine a_iload (pc := 105) dX6_hear_105 rfl ?_
                  refine a_callV3 (pc := 107) ck_X6_100 ⟨(Nat.le_of_ble_eq_true rfl), (Nat.le_of_ble_eq_true rfl)⟩ (by assumption) (by decide) (Nat.le_of_ble_eq_true rfl) dX6_hear_107 rfl (c_X2_join0 net_2 (by omega) (by omega) hij) ?_
                  rintro u rfl
                  refine a_aload_n (pc := 110) dX6_hear_110 rfl rfl ?_
                  refine a_getr (pc := 111) fl_X6_16 (by assumption) (by decide) (by rfl) dX6_hear_111 ?_
                  refine a_iconst (pc := 114) (v := 0) dX6_hear_114 (by decide) ?_
                  refine a_callI1 (pc := 115) ck_X6_104 ⟨(Nat.le_of_ble_eq_true rfl), (Nat.le_of_ble_eq_true rfl)⟩ (by assumption) (by decide) (Nat.le_of_ble_eq_true rfl) dX6_hear_115 rfl (c_X2_pairsOf net_2 (by unfold offF; rw [up2_ne (by unfold stA; omega), up2_ne (by unfold stA; omega)]; exact h0) hN) ?_
                  rintro r u ⟨rfl, rfl⟩
                  refine a_iret (pc := 118) rfl dX6_hear_118 ?_
                  exact ⟨v, hv, rfl, rfl⟩
                · exfalso
                  clear s1 t1
                  simp_all
          · exact absurd c_43 (by decide)
        · exact absurd c_22 (by decide)
      · exact absurd c_15 (by decide)

set_option maxHeartbeats 4000000 in
set_option maxRecDepth 100000 in
theorem c_X6_hear1 {μ : Mem} {U : Mem → Prop} (hU : Con shC mX6_remember [.ref 0] μ (fun _ u => U u)) (hf : ∀ u, U u → ∀ x, 1 ≤ x → x ≤ 106 → u x = μ x)  {N i j : Nat} (h0 : μ 2 0 = nI N) (hN : N ≤ 6) (hi : i < N) (hj : j < N) (hij : i ≠ j) (hs : ¬ bitF (μ (stA 2 i) 0) (nI j)) : Con shC mX6_hear [.ref 0, .int (nI i), .int (nI j), .int 1] μ (fun r u => ∃ v, U v ∧ u = jonF v 2 i j ∧ r = nI (ouC (ndC u 2 0) N N)) := by
  have z0 : shC[0]? = some (6, 8, [some 1, none, some 2, some 53, some 104, some 106, none, none]) := rfl
  have hn := net_2
  obtain ⟨hn0, hn1, hn2, hnS⟩ := id hn
  have wi := hnS i (by omega)
  have w0 := wi.1
  have w1 := wi.2.1.1
  have wj := hnS j (by omega)
  have v0 := wj.1
  have v1 := wj.2.1.1
  refine Con.ofAW (al0 := [some (.ref 0), some (.int (nI i)), some (.int (nI j)), some (.int 1), none]) (by decide) rfl (Nat.le_of_ble_eq_true rfl) rfl ?_
  refine a_aload_n (pc := 0) dX6_hear_0 rfl rfl ?_
  refine a_iload_n (pc := 1) dX6_hear_1 rfl rfl ?_
  refine a_iload_n (pc := 2) dX6_hear_2 rfl rfl ?_
  refine a_callI2 (pc := 3) ck_X6_63 ⟨(Nat.le_of_ble_eq_true rfl), (Nat.le_of_ble_eq_true rfl)⟩ (by assumption) (by decide) (Nat.le_of_ble_eq_true rfl) dX6_hear_3 rfl (c_X6_isPair h0 (by omega)) ?_
  rintro r u ⟨hr, rfl⟩
  have hr1 : r = 1 := by
    rcases hr with q | q
    · exact q.1
    · exact absurd ⟨⟨i, hi, rfl⟩, ⟨j, hj, rfl⟩, nI_ne (by omega) (by omega) hij⟩ q.2
  subst hr1
  refine a_if_eq (pc := 6) (tgt := 18) dX6_hear_6 (by decide) (fun c_6 => ?_) (fun c_6 => ?_)
  · exact absurd c_6 (by decide)
  · refine a_iload_n (pc := 9) dX6_hear_9 rfl rfl ?_
    refine a_if_lt (pc := 10) (tgt := 18) dX6_hear_10 (by decide) (fun c_10 => ?_) (fun c_10 => ?_)
    · exact absurd c_10 (by decide)
    · refine a_iload_n (pc := 13) dX6_hear_13 rfl rfl ?_
      refine a_iconst (pc := 14) (v := 1) dX6_hear_14 (by decide) ?_
      refine a_icmp_le (pc := 15) (tgt := 20) dX6_hear_15 (by decide) (fun c_15 => ?_) (fun c_15 => ?_)
      · refine a_iload_n (pc := 20) dX6_hear_20 rfl rfl ?_
        refine a_iconst (pc := 21) (v := 1) dX6_hear_21 (by decide) ?_
        refine a_icmp_ne (pc := 22) (tgt := 29) dX6_hear_22 (by decide) (fun c_22 => ?_) (fun c_22 => ?_)
        · exact absurd c_22 (by decide)
        · refine a_iconst (pc := 25) (v := 1) dX6_hear_25 (by decide) ?_
          refine a_goto (pc := 26) (tgt := 30) dX6_hear_26 (by decide) ?_
          refine a_istore (pc := 30) (al' := [some (.ref _), some (.int _), some (.int _), some (.int _), some (.int _)]) dX6_hear_30 (by decide) rfl rfl ?_
          refine a_aload_n (pc := 32) dX6_hear_32 rfl rfl ?_
          refine a_getr (pc := 33) fl_X6_16 (by assumption) (by decide) (by rfl) dX6_hear_33 ?_
          refine a_iload_n (pc := 36) dX6_hear_36 rfl rfl ?_
          refine a_iload_n (pc := 37) dX6_hear_37 rfl rfl ?_
          refine a_callI2 (pc := 38) ck_X6_67 ⟨(Nat.le_of_ble_eq_true rfl), (Nat.le_of_ble_eq_true rfl)⟩ (by assumption) (by decide) (Nat.le_of_ble_eq_true rfl) dX6_hear_38 rfl (c_X2_hears net_2 (by omega)) ?_
          rintro r u ⟨hr, rfl⟩
          have hr2 : r = 0 := by
            rcases hr with q | q
            · first | exact q.1 | exact absurd q.2 hs
            · first | exact q.1 | exact absurd hs q.2
          subst hr2
          refine a_iload (pc := 41) dX6_hear_41 rfl ?_
          refine a_icmp_ne (pc := 43) (tgt := 49) dX6_hear_43 (by decide) (fun c_43 => ?_) (fun c_43 => ?_)
          · refine a_iload (pc := 49) dX6_hear_49 rfl ?_
            refine a_if_ne (pc := 51) (tgt := 95) dX6_hear_51 (by decide) (fun c_51 => ?_) (fun c_51 => ?_)
            · refine a_aload_n (pc := 95) dX6_hear_95 rfl rfl ?_
              refine a_callV0 (pc := 96) ck_X6_85 ⟨(Nat.le_of_ble_eq_true rfl), (Nat.le_of_ble_eq_true rfl)⟩ (by assumption) (by decide) (Nat.le_of_ble_eq_true rfl) dX6_hear_96 rfl hU ?_
              rintro v hv
              have h0 : v 2 0 = nI N := by rw [hf v hv 2 (by omega) (by omega)]; exact h0
              refine a_aload_n (pc := 99) dX6_hear_99 rfl rfl ?_
              refine a_getr (pc := 100) fl_X6_16 (by assumption) (by decide) (by rfl) dX6_hear_100 ?_
              refine a_iload_n (pc := 103) dX6_hear_103 rfl rfl ?_
              refine a_iload_n (pc := 104) dX6_hear_104 rfl rfl ?_
              refine a_iload (pc := 105) dX6_hear_105 rfl ?_
              refine a_callV3 (pc := 107) ck_X6_100 ⟨(Nat.le_of_ble_eq_true rfl), (Nat.le_of_ble_eq_true rfl)⟩ (by assumption) (by decide) (Nat.le_of_ble_eq_true rfl) dX6_hear_107 rfl (c_X2_join1 net_2 (by omega) (by omega) hij) ?_
              rintro u rfl
              refine a_aload_n (pc := 110) dX6_hear_110 rfl rfl ?_
              refine a_getr (pc := 111) fl_X6_16 (by assumption) (by decide) (by rfl) dX6_hear_111 ?_
              refine a_iconst (pc := 114) (v := 0) dX6_hear_114 (by decide) ?_
              refine a_callI1 (pc := 115) ck_X6_104 ⟨(Nat.le_of_ble_eq_true rfl), (Nat.le_of_ble_eq_true rfl)⟩ (by assumption) (by decide) (Nat.le_of_ble_eq_true rfl) dX6_hear_115 rfl (c_X2_pairsOf net_2 (by unfold jonF; rw [up2_ne (by unfold stA; omega), up2_ne (by unfold stA; omega)]; exact h0) hN) ?_
              rintro r u ⟨rfl, rfl⟩
              refine a_iret (pc := 118) rfl dX6_hear_118 ?_
              exact ⟨v, hv, rfl, rfl⟩
            · exact absurd c_51 (by decide)
          · exact absurd c_43 (by decide)
      · exact absurd c_15 (by decide)

def xrF (ν : Mem) (i j : Nat) : Mem := up2 (up2 ν 2 (420 + i) (ν 2 (420 + i) ^^^ (1 <<< (nI j &&& 31)))) 2 (420 + j) (up2 ν 2 (420 + i) (ν 2 (420 + i) ^^^ (1 <<< (nI j &&& 31))) 2 (420 + j) ^^^ (1 <<< (nI i &&& 31)))
set_option maxHeartbeats 4000000 in
set_option maxRecDepth 100000 in
theorem c_X7_hear0 {ν : Mem} {V : Mem → Prop} (hV : Con shM mX7_keeps [.ref 0] ν (fun _ u => V u)) (hg : ∀ v, V v → (∀ x, 1 ≤ x → x ≠ 3 → v x = ν x) ∧ ∀ k, k ≠ 9 → v 0 k = ν 0 k)  {N i j si sj : Nat} (h0 : ν 0 2 = nI N) (hN : N ≤ 6) (hi : i < N) (hj : j < N) (hij : i ≠ j) (s1 : ν 2 (440 * 0 + 70 * i + 8) = nI si) (s2 : si ≤ 6) (t1 : ν 2 (440 * 0 + 70 * j + 8) = nI sj) (t2 : sj ≤ 6) (hs : bitF (ν 2 (420 + i)) (nI j)) (hh : ¬ (hasP (fun k => ν 2 (440 * 0 + 70 * i + 9 + 2 * k)) si (nI j) ∨ hasP (fun k => ν 2 (440 * 0 + 70 * j + 9 + 2 * k)) sj (nI i))) : Con shM mX7_hear [.ref 0, .int (nI i), .int (nI j), .int 0] ν (fun r u => ∃ v, V v ∧ u = xrF v i j ∧ r = nI (ouR (ndR (u 2) 0) N)) := by
  have m0 : shM[0]? = some (7, 18, [none, some 1, none, none, none, none, none, some 2, some 3, none, none, some 4, none, none, some 5, some 6, some 7, some 8]) := rfl
  have m1 : shM[1]? = some (100, 200, []) := rfl
  have m2 : shM[2]? = some (100, 1320, []) := rfl
  have m3 : shM[3]? = some (100, 1760, []) := rfl
  have m4 : shM[4]? = some (100, 4, []) := rfl
  have m5 : shM[5]? = some (100, 6, []) := rfl
  have m6 : shM[6]? = some (100, 6, []) := rfl
  have m7 : shM[7]? = some (100, 6, []) := rfl
  have m8 : shM[8]? = some (100, 6, []) := rfl
  refine Con.ofAW (al0 := [some (.ref 0), some (.int (nI i)), some (.int (nI j)), some (.int 0)]) (by decide) rfl (Nat.le_of_ble_eq_true rfl) rfl ?_
  refine a_aload_n (pc := 0) dX7_hear_0 rfl rfl ?_
  refine a_iload_n (pc := 1) dX7_hear_1 rfl rfl ?_
  refine a_iload_n (pc := 2) dX7_hear_2 rfl rfl ?_
  refine a_callI2 (pc := 3) ck_X7_178 ⟨(Nat.le_of_ble_eq_true rfl), (Nat.le_of_ble_eq_true rfl)⟩ (by assumption) (by decide) (Nat.le_of_ble_eq_true rfl) dX7_hear_3 rfl (c_X7_areTwo h0 (by omega) (by omega)) ?_
  rintro r u ⟨hr, rfl⟩
  have hr1 : r = 1 := by
    rcases hr with q | q
    · exact q.1
    · exact absurd ⟨⟨i, hi, rfl⟩, ⟨j, hj, rfl⟩, nI_ne (by omega) (by omega) hij⟩ q.2
  subst hr1
  refine a_if_eq (pc := 6) (tgt := 18) dX7_hear_6 (by decide) (fun c_6 => ?_) (fun c_6 => ?_)
  · exact absurd c_6 (by decide)
  · refine a_iload_n (pc := 9) dX7_hear_9 rfl rfl ?_
    refine a_iconst (pc := 10) (v := 0) dX7_hear_10 (by decide) ?_
    refine a_iconst (pc := 11) (v := 1) dX7_hear_11 (by decide) ?_
    refine a_callS3 (pc := 12) cs_X7_94 ⟨(Nat.le_of_ble_eq_true rfl), (Nat.le_of_ble_eq_true rfl)⟩ (Nat.le_of_ble_eq_true rfl) dX7_hear_12 rfl c_X7_isIn ?_
    rintro r u ⟨hr, rfl⟩
    have hr1 := isin_y hr (by decide)
    subst hr1
    refine a_if_ne (pc := 15) (tgt := 20) dX7_hear_15 (by decide) (fun c_15 => ?_) (fun c_15 => ?_)
    · refine a_aload_n (pc := 20) dX7_hear_20 rfl rfl ?_
      refine a_getr (pc := 21) fl_X7_13 (by assumption) (by decide) (by rfl) dX7_hear_21 ?_
      refine a_sipush (pc := 24) (v := 420) dX7_hear_24 (by decide) ?_
      refine a_iload_n (pc := 27) dX7_hear_27 rfl rfl ?_
      refine a_iaddN (pc := 28) (a := 420) (b := _) rfl rfl dX7_hear_28 ?_
      refine a_iald (pc := 29)  (by assumption) rfl (by omega) (by decide) dX7_hear_29 ?_
      refine a_iload_n (pc := 30) dX7_hear_30 rfl rfl ?_
      refine a_callS2 (pc := 31) cs_X7_105 ⟨(Nat.le_of_ble_eq_true rfl), (Nat.le_of_ble_eq_true rfl)⟩ (Nat.le_of_ble_eq_true rfl) dX7_hear_31 rfl c_X7_has ?_
      rintro r u ⟨hr, rfl⟩
      have hr2 : r = 1 := by
        rcases hr with q | q
        · first | exact q.1 | exact absurd q.2 hs
        · first | exact q.1 | exact absurd hs q.2
      subst hr2
      refine a_iload_n (pc := 34) dX7_hear_34 rfl rfl ?_
      refine a_iconst (pc := 35) (v := 1) dX7_hear_35 (by decide) ?_
      refine a_icmp_ne (pc := 36) (tgt := 43) dX7_hear_36 (by decide) (fun c_36 => ?_) (fun c_36 => ?_)
      · refine a_iconst (pc := 43) (v := 0) dX7_hear_43 (by decide) ?_
        refine a_icmp_eq (pc := 44) (tgt := 69) dX7_hear_44 (by decide) (fun c_44 => ?_) (fun c_44 => ?_)
        · exact absurd c_44 (by decide)
        · refine a_iload_n (pc := 47) dX7_hear_47 rfl rfl ?_
          refine a_if_ne (pc := 48) (tgt := 72) dX7_hear_48 (by decide) (fun c_48 => ?_) (fun c_48 => ?_)
          · exact absurd c_48 (by decide)
          · refine a_aload_n (pc := 51) dX7_hear_51 rfl rfl ?_
            refine a_iload_n (pc := 52) dX7_hear_52 rfl rfl ?_
            refine a_iload_n (pc := 53) dX7_hear_53 rfl rfl ?_
            refine a_callI2 (pc := 54) ck_X7_187 ⟨(Nat.le_of_ble_eq_true rfl), (Nat.le_of_ble_eq_true rfl)⟩ (by assumption) (by decide) (Nat.le_of_ble_eq_true rfl) dX7_hear_54 rfl (c_X7_hasFor (by omega) s1 s2) ?_
            rintro r1 u ⟨hr1, rfl⟩
            refine a_if_ne (pc := 57) (tgt := 69) dX7_hear_57 (by decide) (fun c_57 => ?_) (fun c_57 => ?_)
            · exfalso
              clear s1 t1
              simp_all
            · refine a_aload_n (pc := 60) dX7_hear_60 rfl rfl ?_
              refine a_iload_n (pc := 61) dX7_hear_61 rfl rfl ?_
              refine a_iload_n (pc := 62) dX7_hear_62 rfl rfl ?_
              refine a_callI2 (pc := 63) ck_X7_187 ⟨(Nat.le_of_ble_eq_true rfl), (Nat.le_of_ble_eq_true rfl)⟩ (by assumption) (by decide) (Nat.le_of_ble_eq_true rfl) dX7_hear_63 rfl (c_X7_hasFor (by omega) t1 t2) ?_
              rintro r2 u ⟨hr2, rfl⟩
              refine a_if_eq (pc := 66) (tgt := 72) dX7_hear_66 (by decide) (fun c_66 => ?_) (fun c_66 => ?_)
              · refine a_aload_n (pc := 72) dX7_hear_72 rfl rfl ?_
                refine a_callV0 (pc := 73) ck_X7_181 ⟨(Nat.le_of_ble_eq_true rfl), (Nat.le_of_ble_eq_true rfl)⟩ (by assumption) (by decide) (Nat.le_of_ble_eq_true rfl) dX7_hear_73 rfl hV ?_
                rintro v hv
                have h0 : v 0 2 = nI N := by rw [(hg v hv).2 2 (by omega)]; exact h0
                refine a_aload_n (pc := 76) dX7_hear_76 rfl rfl ?_
                refine a_getr (pc := 77) fl_X7_13 (by assumption) (by decide) (by rfl) dX7_hear_77 ?_
                refine a_sipush (pc := 80) (v := 420) dX7_hear_80 (by decide) ?_
                refine a_iload_n (pc := 83) dX7_hear_83 rfl rfl ?_
                refine a_iaddN (pc := 84) (a := 420) (b := _) rfl rfl dX7_hear_84 ?_
                refine a_dup2 (pc := 85) dX7_hear_85 rfl rfl ?_
                refine a_iald (pc := 86)  (by assumption) rfl (by omega) (by decide) dX7_hear_86 ?_
                refine a_iconst (pc := 87) (v := 1) dX7_hear_87 (by decide) ?_
                refine a_iload_n (pc := 88) dX7_hear_88 rfl rfl ?_
                refine a_ishl (pc := 89) dX7_hear_89 ?_
                refine a_ixor (pc := 90) dX7_hear_90 ?_
                refine a_iast (pc := 91)  (by assumption) rfl (by omega) (by decide) dX7_hear_91 ?_
                refine a_aload_n (pc := 92) dX7_hear_92 rfl rfl ?_
                refine a_getr (pc := 93) fl_X7_13 (by assumption) (by decide) (by rfl) dX7_hear_93 ?_
                refine a_sipush (pc := 96) (v := 420) dX7_hear_96 (by decide) ?_
                refine a_iload_n (pc := 99) dX7_hear_99 rfl rfl ?_
                refine a_iaddN (pc := 100) (a := 420) (b := _) rfl rfl dX7_hear_100 ?_
                refine a_dup2 (pc := 101) dX7_hear_101 rfl rfl ?_
                refine a_iald (pc := 102)  (by assumption) rfl (by omega) (by decide) dX7_hear_102 ?_
                refine a_iconst (pc := 103) (v := 1) dX7_hear_103 (by decide) ?_
                refine a_iload_n (pc := 104) dX7_hear_104 rfl rfl ?_
                refine a_ishl (pc := 105) dX7_hear_105 ?_
                refine a_ixor (pc := 106) dX7_hear_106 ?_
                refine a_iast (pc := 107)  (by assumption) rfl (by omega) (by decide) dX7_hear_107 ?_
                refine a_aload_n (pc := 108) dX7_hear_108 rfl rfl ?_
                refine a_iconst (pc := 109) (v := 0) dX7_hear_109 (by decide) ?_
                refine a_callI1 (pc := 110) ck_X7_190 ⟨(Nat.le_of_ble_eq_true rfl), (Nat.le_of_ble_eq_true rfl)⟩ (by assumption) (by decide) (Nat.le_of_ble_eq_true rfl) dX7_hear_110 rfl (c_X7_pairs (by rw [up2_ne (by omega), up2_ne (by omega)]; exact h0) hN) ?_
                rintro r u ⟨rfl, rfl⟩
                refine a_iret (pc := 113) rfl dX7_hear_113 ?_
                exact ⟨v, hv, rfl, rfl⟩
              · exfalso
                clear s1 t1
                simp_all
      · exact absurd c_36 (by decide)
    · exact absurd c_15 (by decide)

set_option maxHeartbeats 4000000 in
set_option maxRecDepth 100000 in
theorem c_X7_hear1 {ν : Mem} {V : Mem → Prop} (hV : Con shM mX7_keeps [.ref 0] ν (fun _ u => V u)) (hg : ∀ v, V v → (∀ x, 1 ≤ x → x ≠ 3 → v x = ν x) ∧ ∀ k, k ≠ 9 → v 0 k = ν 0 k)  {N i j : Nat} (h0 : ν 0 2 = nI N) (hN : N ≤ 6) (hi : i < N) (hj : j < N) (hij : i ≠ j) (hs : ¬ bitF (ν 2 (420 + i)) (nI j)) : Con shM mX7_hear [.ref 0, .int (nI i), .int (nI j), .int 1] ν (fun r u => ∃ v, V v ∧ u = xrF v i j ∧ r = nI (ouR (ndR (u 2) 0) N)) := by
  have m0 : shM[0]? = some (7, 18, [none, some 1, none, none, none, none, none, some 2, some 3, none, none, some 4, none, none, some 5, some 6, some 7, some 8]) := rfl
  have m1 : shM[1]? = some (100, 200, []) := rfl
  have m2 : shM[2]? = some (100, 1320, []) := rfl
  have m3 : shM[3]? = some (100, 1760, []) := rfl
  have m4 : shM[4]? = some (100, 4, []) := rfl
  have m5 : shM[5]? = some (100, 6, []) := rfl
  have m6 : shM[6]? = some (100, 6, []) := rfl
  have m7 : shM[7]? = some (100, 6, []) := rfl
  have m8 : shM[8]? = some (100, 6, []) := rfl
  refine Con.ofAW (al0 := [some (.ref 0), some (.int (nI i)), some (.int (nI j)), some (.int 1)]) (by decide) rfl (Nat.le_of_ble_eq_true rfl) rfl ?_
  refine a_aload_n (pc := 0) dX7_hear_0 rfl rfl ?_
  refine a_iload_n (pc := 1) dX7_hear_1 rfl rfl ?_
  refine a_iload_n (pc := 2) dX7_hear_2 rfl rfl ?_
  refine a_callI2 (pc := 3) ck_X7_178 ⟨(Nat.le_of_ble_eq_true rfl), (Nat.le_of_ble_eq_true rfl)⟩ (by assumption) (by decide) (Nat.le_of_ble_eq_true rfl) dX7_hear_3 rfl (c_X7_areTwo h0 (by omega) (by omega)) ?_
  rintro r u ⟨hr, rfl⟩
  have hr1 : r = 1 := by
    rcases hr with q | q
    · exact q.1
    · exact absurd ⟨⟨i, hi, rfl⟩, ⟨j, hj, rfl⟩, nI_ne (by omega) (by omega) hij⟩ q.2
  subst hr1
  refine a_if_eq (pc := 6) (tgt := 18) dX7_hear_6 (by decide) (fun c_6 => ?_) (fun c_6 => ?_)
  · exact absurd c_6 (by decide)
  · refine a_iload_n (pc := 9) dX7_hear_9 rfl rfl ?_
    refine a_iconst (pc := 10) (v := 0) dX7_hear_10 (by decide) ?_
    refine a_iconst (pc := 11) (v := 1) dX7_hear_11 (by decide) ?_
    refine a_callS3 (pc := 12) cs_X7_94 ⟨(Nat.le_of_ble_eq_true rfl), (Nat.le_of_ble_eq_true rfl)⟩ (Nat.le_of_ble_eq_true rfl) dX7_hear_12 rfl c_X7_isIn ?_
    rintro r u ⟨hr, rfl⟩
    have hr1 := isin_y hr (by decide)
    subst hr1
    refine a_if_ne (pc := 15) (tgt := 20) dX7_hear_15 (by decide) (fun c_15 => ?_) (fun c_15 => ?_)
    · refine a_aload_n (pc := 20) dX7_hear_20 rfl rfl ?_
      refine a_getr (pc := 21) fl_X7_13 (by assumption) (by decide) (by rfl) dX7_hear_21 ?_
      refine a_sipush (pc := 24) (v := 420) dX7_hear_24 (by decide) ?_
      refine a_iload_n (pc := 27) dX7_hear_27 rfl rfl ?_
      refine a_iaddN (pc := 28) (a := 420) (b := _) rfl rfl dX7_hear_28 ?_
      refine a_iald (pc := 29)  (by assumption) rfl (by omega) (by decide) dX7_hear_29 ?_
      refine a_iload_n (pc := 30) dX7_hear_30 rfl rfl ?_
      refine a_callS2 (pc := 31) cs_X7_105 ⟨(Nat.le_of_ble_eq_true rfl), (Nat.le_of_ble_eq_true rfl)⟩ (Nat.le_of_ble_eq_true rfl) dX7_hear_31 rfl c_X7_has ?_
      rintro r u ⟨hr, rfl⟩
      have hr2 : r = 0 := by
        rcases hr with q | q
        · first | exact q.1 | exact absurd q.2 hs
        · first | exact q.1 | exact absurd hs q.2
      subst hr2
      refine a_iload_n (pc := 34) dX7_hear_34 rfl rfl ?_
      refine a_iconst (pc := 35) (v := 1) dX7_hear_35 (by decide) ?_
      refine a_icmp_ne (pc := 36) (tgt := 43) dX7_hear_36 (by decide) (fun c_36 => ?_) (fun c_36 => ?_)
      · exact absurd c_36 (by decide)
      · refine a_iconst (pc := 39) (v := 1) dX7_hear_39 (by decide) ?_
        refine a_goto (pc := 40) (tgt := 44) dX7_hear_40 (by decide) ?_
        refine a_icmp_eq (pc := 44) (tgt := 69) dX7_hear_44 (by decide) (fun c_44 => ?_) (fun c_44 => ?_)
        · exact absurd c_44 (by decide)
        · refine a_iload_n (pc := 47) dX7_hear_47 rfl rfl ?_
          refine a_if_ne (pc := 48) (tgt := 72) dX7_hear_48 (by decide) (fun c_48 => ?_) (fun c_48 => ?_)
          · refine a_aload_n (pc := 72) dX7_hear_72 rfl rfl ?_
            refine a_callV0 (pc := 73) ck_X7_181 ⟨(Nat.le_of_ble_eq_true rfl), (Nat.le_of_ble_eq_true rfl)⟩ (by assumption) (by decide) (Nat.le_of_ble_eq_true rfl) dX7_hear_73 rfl hV ?_
            rintro v hv
            have h0 : v 0 2 = nI N := by rw [(hg v hv).2 2 (by omega)]; exact h0
            refine a_aload_n (pc := 76) dX7_hear_76 rfl rfl ?_
            refine a_getr (pc := 77) fl_X7_13 (by assumption) (by decide) (by rfl) dX7_hear_77 ?_
            refine a_sipush (pc := 80) (v := 420) dX7_hear_80 (by decide) ?_
            refine a_iload_n (pc := 83) dX7_hear_83 rfl rfl ?_
            refine a_iaddN (pc := 84) (a := 420) (b := _) rfl rfl dX7_hear_84 ?_
            refine a_dup2 (pc := 85) dX7_hear_85 rfl rfl ?_
            refine a_iald (pc := 86)  (by assumption) rfl (by omega) (by decide) dX7_hear_86 ?_
            refine a_iconst (pc := 87) (v := 1) dX7_hear_87 (by decide) ?_
            refine a_iload_n (pc := 88) dX7_hear_88 rfl rfl ?_
            refine a_ishl (pc := 89) dX7_hear_89 ?_
            refine a_ixor (pc := 90) dX7_hear_90 ?_
            refine a_iast (pc := 91)  (by assumption) rfl (by omega) (by decide) dX7_hear_91 ?_
            refine a_aload_n (pc := 92) dX7_hear_92 rfl rfl ?_
            refine a_getr (pc := 93) fl_X7_13 (by assumption) (by decide) (by rfl) dX7_hear_93 ?_
            refine a_sipush (pc := 96) (v := 420) dX7_hear_96 (by decide) ?_
            refine a_iload_n (pc := 99) dX7_hear_99 rfl rfl ?_
            refine a_iaddN (pc := 100) (a := 420) (b := _) rfl rfl dX7_hear_100 ?_
            refine a_dup2 (pc := 101) dX7_hear_101 rfl rfl ?_
            refine a_iald (pc := 102)  (by assumption) rfl (by omega) (by decide) dX7_hear_102 ?_
            refine a_iconst (pc := 103) (v := 1) dX7_hear_103 (by decide) ?_
            refine a_iload_n (pc := 104) dX7_hear_104 rfl rfl ?_
            refine a_ishl (pc := 105) dX7_hear_105 ?_
            refine a_ixor (pc := 106) dX7_hear_106 ?_
            refine a_iast (pc := 107)  (by assumption) rfl (by omega) (by decide) dX7_hear_107 ?_
            refine a_aload_n (pc := 108) dX7_hear_108 rfl rfl ?_
            refine a_iconst (pc := 109) (v := 0) dX7_hear_109 (by decide) ?_
            refine a_callI1 (pc := 110) ck_X7_190 ⟨(Nat.le_of_ble_eq_true rfl), (Nat.le_of_ble_eq_true rfl)⟩ (by assumption) (by decide) (Nat.le_of_ble_eq_true rfl) dX7_hear_110 rfl (c_X7_pairs (by rw [up2_ne (by omega), up2_ne (by omega)]; exact h0) hN) ?_
            rintro r u ⟨rfl, rfl⟩
            refine a_iret (pc := 113) rfl dX7_hear_113 ?_
            exact ⟨v, hv, rfl, rfl⟩
          · exact absurd c_48 (by decide)
    · exact absurd c_15 (by decide)

