/-! hear -/
set_option maxHeartbeats 4000000 in
set_option maxRecDepth 100000 in
theorem c_X6_hearX {μ : Mem} {N : Nat} {i j k : Int32} (h0 : μ 2 0 = nI N) (hN : N ≤ 6) (h : ¬ ((stnP i N ∧ stnP j N ∧ ¬ i = j) ∧ ¬ k < 0 ∧ ¬ 1 < k)) : Con shC mX6_hear [.ref 0, .int i, .int j, .int k] μ (fun r u => r = -1 ∧ μ = u) := by
  have z0 : shC[0]? = some (6, 8, [some 1, none, some 2, some 53, some 104, some 106, none, none]) := rfl
  have hn := net_2
  obtain ⟨hn0, hn1, hn2, hnS⟩ := id hn
  refine Con.ofAW (al0 := [some (.ref 0), some (.int i), some (.int j), some (.int k), none]) (by decide) rfl (Nat.le_of_ble_eq_true rfl) rfl ?_
  refine a_aload_n (pc := 0) dX6_hear_0 rfl rfl ?_
  refine a_iload_n (pc := 1) dX6_hear_1 rfl rfl ?_
  refine a_iload_n (pc := 2) dX6_hear_2 rfl rfl ?_
  refine a_callI2 (pc := 3) ck_X6_63 ⟨(Nat.le_of_ble_eq_true rfl), (Nat.le_of_ble_eq_true rfl)⟩ (by assumption) (by decide) (Nat.le_of_ble_eq_true rfl) dX6_hear_3 rfl (c_X6_isPair h0 (by omega)) ?_
  rintro r u ⟨hr, rfl⟩
  refine a_if_eq (pc := 6) (tgt := 18) dX6_hear_6 (by decide) (fun c_6 => ?_) (fun c_6 => ?_)
  · refine a_iconst (pc := 18) (v := -1) dX6_hear_18 (by decide) ?_
    refine a_iret (pc := 19) rfl dX6_hear_19 ?_
    exact ⟨rfl, rfl⟩
  · refine a_iload_n (pc := 9) dX6_hear_9 rfl rfl ?_
    refine a_if_lt (pc := 10) (tgt := 18) dX6_hear_10 (by decide) (fun c_10 => ?_) (fun c_10 => ?_)
    · refine a_iconst (pc := 18) (v := -1) dX6_hear_18 (by decide) ?_
      refine a_iret (pc := 19) rfl dX6_hear_19 ?_
      exact ⟨rfl, rfl⟩
    · refine a_iload_n (pc := 13) dX6_hear_13 rfl rfl ?_
      refine a_iconst (pc := 14) (v := 1) dX6_hear_14 (by decide) ?_
      refine a_icmp_le (pc := 15) (tgt := 20) dX6_hear_15 (by decide) (fun c_15 => ?_) (fun c_15 => ?_)
      · exfalso
        rw [← Int32.not_lt] at c_15
        simp_all [-Int32.not_lt, -Int32.not_le]
      · refine a_iconst (pc := 18) (v := -1) dX6_hear_18 (by decide) ?_
        refine a_iret (pc := 19) rfl dX6_hear_19 ?_
        exact ⟨rfl, rfl⟩

set_option maxHeartbeats 4000000 in
set_option maxRecDepth 100000 in
theorem c_X7_hearX {ν : Mem} {N : Nat} {i j k : Int32} (h0 : ν 0 2 = nI N) (hN : N ≤ 6) (hN1 : 1 ≤ N) (h : ¬ ((stnP i N ∧ stnP j N ∧ ¬ i = j) ∧ ¬ k < 0 ∧ ¬ 1 < k)) : Con shM mX7_hear [.ref 0, .int i, .int j, .int k] ν (fun r u => r = -1 ∧ ν = u) := by
  have m0 : shM[0]? = some (7, 18, [none, some 1, none, none, none, none, none, some 2, some 3, none, none, some 4, none, none, some 5, some 6, some 7, some 8]) := rfl
  have m1 : shM[1]? = some (100, 200, []) := rfl
  have m2 : shM[2]? = some (100, 1320, []) := rfl
  have m3 : shM[3]? = some (100, 1760, []) := rfl
  have m4 : shM[4]? = some (100, 4, []) := rfl
  have m5 : shM[5]? = some (100, 6, []) := rfl
  have m6 : shM[6]? = some (100, 6, []) := rfl
  have m7 : shM[7]? = some (100, 6, []) := rfl
  have m8 : shM[8]? = some (100, 6, []) := rfl
  refine Con.ofAW (al0 := [some (.ref 0), some (.int i), some (.int j), some (.int k)]) (by decide) rfl (Nat.le_of_ble_eq_true rfl) rfl ?_
  refine a_aload_n (pc := 0) dX7_hear_0 rfl rfl ?_
  refine a_iload_n (pc := 1) dX7_hear_1 rfl rfl ?_
  refine a_iload_n (pc := 2) dX7_hear_2 rfl rfl ?_
  refine a_callI2 (pc := 3) ck_X7_178 ⟨(Nat.le_of_ble_eq_true rfl), (Nat.le_of_ble_eq_true rfl)⟩ (by assumption) (by decide) (Nat.le_of_ble_eq_true rfl) dX7_hear_3 rfl (c_X7_areTwo h0 (by omega) hN1) ?_
  rintro r u ⟨hr, rfl⟩
  refine a_if_eq (pc := 6) (tgt := 18) dX7_hear_6 (by decide) (fun c_6 => ?_) (fun c_6 => ?_)
  · refine a_iconst (pc := 18) (v := -1) dX7_hear_18 (by decide) ?_
    refine a_iret (pc := 19) rfl dX7_hear_19 ?_
    exact ⟨rfl, rfl⟩
  · refine a_iload_n (pc := 9) dX7_hear_9 rfl rfl ?_
    refine a_iconst (pc := 10) (v := 0) dX7_hear_10 (by decide) ?_
    refine a_iconst (pc := 11) (v := 1) dX7_hear_11 (by decide) ?_
    refine a_callS3 (pc := 12) cs_X7_94 ⟨(Nat.le_of_ble_eq_true rfl), (Nat.le_of_ble_eq_true rfl)⟩ (Nat.le_of_ble_eq_true rfl) dX7_hear_12 rfl c_X7_isIn ?_
    rintro r2 u ⟨hr2, rfl⟩
    refine a_if_ne (pc := 15) (tgt := 20) dX7_hear_15 (by decide) (fun c_15 => ?_) (fun c_15 => ?_)
    · exfalso; simp_all [-Int32.not_lt, -Int32.not_le]
    · refine a_iconst (pc := 18) (v := -1) dX7_hear_18 (by decide) ?_
      refine a_iret (pc := 19) rfl dX7_hear_19 ?_
      exact ⟨rfl, rfl⟩

set_option maxHeartbeats 4000000 in
set_option maxRecDepth 100000 in
theorem c_X6_hearS0 {μ : Mem} {N i j : Nat} (h0 : μ 2 0 = nI N) (hN : N ≤ 6) (hi : i < N) (hj : j < N) (hij : i ≠ j) (hs : ¬ bitF (μ (stA 2 i) 0) (nI j)) : Con shC mX6_hear [.ref 0, .int (nI i), .int (nI j), .int 0] μ (fun r u => r = -2 ∧ μ = u) := by
  have z0 : shC[0]? = some (6, 8, [some 1, none, some 2, some 53, some 104, some 106, none, none]) := rfl
  have hn := net_2
  obtain ⟨hn0, hn1, hn2, hnS⟩ := id hn
  refine Con.ofAW (al0 := [some (.ref 0), some (.int (nI i)), some (.int (nI j)), some (.int 0), none]) (by decide) rfl (Nat.le_of_ble_eq_true rfl) rfl ?_
  refine a_aload_n (pc := 0) dX6_hear_0 rfl rfl ?_
  refine a_iload_n (pc := 1) dX6_hear_1 rfl rfl ?_
  refine a_iload_n (pc := 2) dX6_hear_2 rfl rfl ?_
  refine a_callI2 (pc := 3) ck_X6_63 ⟨(Nat.le_of_ble_eq_true rfl), (Nat.le_of_ble_eq_true rfl)⟩ (by assumption) (by decide) (Nat.le_of_ble_eq_true rfl) dX6_hear_3 rfl (c_X6_isPair h0 (by omega)) ?_
  rintro r u ⟨hr, rfl⟩
  have hr1 : r = 1 := by
    rcases hr with q | q
    · exact q.1
    · exact absurd ⟨⟨i, hi, rfl⟩, ⟨j, hj, rfl⟩, nI_ne (by omega) (by omega) hij⟩ q.2
  subst hr1
  refine a_if_eq (pc := 6) (tgt := 18) dX6_hear_6 (by decide) (fun c_6 => ?_) (fun c_6 => ?_)
  · exact absurd c_6 (by decide)
  · refine a_iload_n (pc := 9) dX6_hear_9 rfl rfl ?_
    refine a_if_lt (pc := 10) (tgt := 18) dX6_hear_10 (by decide) (fun c_10 => ?_) (fun c_10 => ?_)
    · exact absurd c_10 (by decide)
    · refine a_iload_n (pc := 13) dX6_hear_13 rfl rfl ?_
      refine a_iconst (pc := 14) (v := 1) dX6_hear_14 (by decide) ?_
      refine a_icmp_le (pc := 15) (tgt := 20) dX6_hear_15 (by decide) (fun c_15 => ?_) (fun c_15 => ?_)
      · refine a_iload_n (pc := 20) dX6_hear_20 rfl rfl ?_
        refine a_iconst (pc := 21) (v := 1) dX6_hear_21 (by decide) ?_
        refine a_icmp_ne (pc := 22) (tgt := 29) dX6_hear_22 (by decide) (fun c_22 => ?_) (fun c_22 => ?_)
        · refine a_iconst (pc := 29) (v := 0) dX6_hear_29 (by decide) ?_
          refine a_istore (pc := 30) (al' := [some (.ref _), some (.int _), some (.int _), some (.int _), some (.int _)]) dX6_hear_30 (by decide) rfl rfl ?_
          refine a_aload_n (pc := 32) dX6_hear_32 rfl rfl ?_
          refine a_getr (pc := 33) fl_X6_16 (by assumption) (by decide) (by rfl) dX6_hear_33 ?_
          refine a_iload_n (pc := 36) dX6_hear_36 rfl rfl ?_
          refine a_iload_n (pc := 37) dX6_hear_37 rfl rfl ?_
          refine a_callI2 (pc := 38) ck_X6_67 ⟨(Nat.le_of_ble_eq_true rfl), (Nat.le_of_ble_eq_true rfl)⟩ (by assumption) (by decide) (Nat.le_of_ble_eq_true rfl) dX6_hear_38 rfl (c_X2_hears net_2 (by omega)) ?_
          rintro r u ⟨hr, rfl⟩
          have hr2 : r = 0 := by
            rcases hr with q | q
            · first | exact q.1 | exact absurd q.2 hs
            · first | exact q.1 | exact absurd hs q.2
          subst hr2
          refine a_iload (pc := 41) dX6_hear_41 rfl ?_
          refine a_icmp_ne (pc := 43) (tgt := 49) dX6_hear_43 (by decide) (fun c_43 => ?_) (fun c_43 => ?_)
          · exact absurd c_43 (by decide)
          · refine a_bipush (pc := 46) (v := -2) dX6_hear_46 (by decide) ?_
            refine a_iret (pc := 48) rfl dX6_hear_48 ?_
            exact ⟨rfl, rfl⟩
        · exact absurd c_22 (by decide)
      · exact absurd c_15 (by decide)

set_option maxHeartbeats 4000000 in
set_option maxRecDepth 100000 in
theorem c_X7_hearS0 {ν : Mem} {N i j : Nat} (h0 : ν 0 2 = nI N) (hN : N ≤ 6) (hi : i < N) (hj : j < N) (hij : i ≠ j) (hs : ¬ bitF (ν 2 (420 + i)) (nI j)) : Con shM mX7_hear [.ref 0, .int (nI i), .int (nI j), .int 0] ν (fun r u => r = -2 ∧ ν = u) := by
  have m0 : shM[0]? = some (7, 18, [none, some 1, none, none, none, none, none, some 2, some 3, none, none, some 4, none, none, some 5, some 6, some 7, some 8]) := rfl
  have m1 : shM[1]? = some (100, 200, []) := rfl
  have m2 : shM[2]? = some (100, 1320, []) := rfl
  have m3 : shM[3]? = some (100, 1760, []) := rfl
  have m4 : shM[4]? = some (100, 4, []) := rfl
  have m5 : shM[5]? = some (100, 6, []) := rfl
  have m6 : shM[6]? = some (100, 6, []) := rfl
  have m7 : shM[7]? = some (100, 6, []) := rfl
  have m8 : shM[8]? = some (100, 6, []) := rfl
  refine Con.ofAW (al0 := [some (.ref 0), some (.int (nI i)), some (.int (nI j)), some (.int 0)]) (by decide) rfl (Nat.le_of_ble_eq_true rfl) rfl ?_
  refine a_aload_n (pc := 0) dX7_hear_0 rfl rfl ?_
  refine a_iload_n (pc := 1) dX7_hear_1 rfl rfl ?_
  refine a_iload_n (pc := 2) dX7_hear_2 rfl rfl ?_
  refine a_callI2 (pc := 3) ck_X7_178 ⟨(Nat.le_of_ble_eq_true rfl), (Nat.le_of_ble_eq_true rfl)⟩ (by assumption) (by decide) (Nat.le_of_ble_eq_true rfl) dX7_hear_3 rfl (c_X7_areTwo h0 (by omega) (by omega)) ?_
  rintro r u ⟨hr, rfl⟩
  have hr1 : r = 1 := by
    rcases hr with q | q
    · exact q.1
    · exact absurd ⟨⟨i, hi, rfl⟩, ⟨j, hj, rfl⟩, nI_ne (by omega) (by omega) hij⟩ q.2
  subst hr1
  refine a_if_eq (pc := 6) (tgt := 18) dX7_hear_6 (by decide) (fun c_6 => ?_) (fun c_6 => ?_)
  · exact absurd c_6 (by decide)
  · refine a_iload_n (pc := 9) dX7_hear_9 rfl rfl ?_
    refine a_iconst (pc := 10) (v := 0) dX7_hear_10 (by decide) ?_
    refine a_iconst (pc := 11) (v := 1) dX7_hear_11 (by decide) ?_
    refine a_callS3 (pc := 12) cs_X7_94 ⟨(Nat.le_of_ble_eq_true rfl), (Nat.le_of_ble_eq_true rfl)⟩ (Nat.le_of_ble_eq_true rfl) dX7_hear_12 rfl c_X7_isIn ?_
    rintro r u ⟨hr, rfl⟩
    have hr1 := isin_y hr (by decide)
    subst hr1
    refine a_if_ne (pc := 15) (tgt := 20) dX7_hear_15 (by decide) (fun c_15 => ?_) (fun c_15 => ?_)
    · refine a_aload_n (pc := 20) dX7_hear_20 rfl rfl ?_
      refine a_getr (pc := 21) fl_X7_13 (by assumption) (by decide) (by rfl) dX7_hear_21 ?_
      refine a_sipush (pc := 24) (v := 420) dX7_hear_24 (by decide) ?_
      refine a_iload_n (pc := 27) dX7_hear_27 rfl rfl ?_
      refine a_iaddN (pc := 28) (a := 420) (b := _) rfl rfl dX7_hear_28 ?_
      refine a_iald (pc := 29)  (by assumption) rfl (by omega) (by decide) dX7_hear_29 ?_
      refine a_iload_n (pc := 30) dX7_hear_30 rfl rfl ?_
      refine a_callS2 (pc := 31) cs_X7_105 ⟨(Nat.le_of_ble_eq_true rfl), (Nat.le_of_ble_eq_true rfl)⟩ (Nat.le_of_ble_eq_true rfl) dX7_hear_31 rfl c_X7_has ?_
      rintro r u ⟨hr, rfl⟩
      have hr2 : r = 0 := by
        rcases hr with q | q
        · first | exact q.1 | exact absurd q.2 hs
        · first | exact q.1 | exact absurd hs q.2
      subst hr2
      refine a_iload_n (pc := 34) dX7_hear_34 rfl rfl ?_
      refine a_iconst (pc := 35) (v := 1) dX7_hear_35 (by decide) ?_
      refine a_icmp_ne (pc := 36) (tgt := 43) dX7_hear_36 (by decide) (fun c_36 => ?_) (fun c_36 => ?_)
      · refine a_iconst (pc := 43) (v := 0) dX7_hear_43 (by decide) ?_
        refine a_icmp_eq (pc := 44) (tgt := 69) dX7_hear_44 (by decide) (fun c_44 => ?_) (fun c_44 => ?_)
        · refine a_bipush (pc := 69) (v := -2) dX7_hear_69 (by decide) ?_
          refine a_iret (pc := 71) rfl dX7_hear_71 ?_
          exact ⟨rfl, rfl⟩
        · exact absurd c_44 (by decide)
      · exact absurd c_36 (by decide)
    · exact absurd c_15 (by decide)

set_option maxHeartbeats 4000000 in
set_option maxRecDepth 100000 in
theorem c_X6_hearS1 {μ : Mem} {N i j : Nat} (h0 : μ 2 0 = nI N) (hN : N ≤ 6) (hi : i < N) (hj : j < N) (hij : i ≠ j) (hs : bitF (μ (stA 2 i) 0) (nI j)) : Con shC mX6_hear [.ref 0, .int (nI i), .int (nI j), .int 1] μ (fun r u => r = -2 ∧ μ = u) := by
  have z0 : shC[0]? = some (6, 8, [some 1, none, some 2, some 53, some 104, some 106, none, none]) := rfl
  have hn := net_2
  obtain ⟨hn0, hn1, hn2, hnS⟩ := id hn
  refine Con.ofAW (al0 := [some (.ref 0), some (.int (nI i)), some (.int (nI j)), some (.int 1), none]) (by decide) rfl (Nat.le_of_ble_eq_true rfl) rfl ?_
  refine a_aload_n (pc := 0) dX6_hear_0 rfl rfl ?_
  refine a_iload_n (pc := 1) dX6_hear_1 rfl rfl ?_
  refine a_iload_n (pc := 2) dX6_hear_2 rfl rfl ?_
  refine a_callI2 (pc := 3) ck_X6_63 ⟨(Nat.le_of_ble_eq_true rfl), (Nat.le_of_ble_eq_true rfl)⟩ (by assumption) (by decide) (Nat.le_of_ble_eq_true rfl) dX6_hear_3 rfl (c_X6_isPair h0 (by omega)) ?_
  rintro r u ⟨hr, rfl⟩
  have hr1 : r = 1 := by
    rcases hr with q | q
    · exact q.1
    · exact absurd ⟨⟨i, hi, rfl⟩, ⟨j, hj, rfl⟩, nI_ne (by omega) (by omega) hij⟩ q.2
  subst hr1
  refine a_if_eq (pc := 6) (tgt := 18) dX6_hear_6 (by decide) (fun c_6 => ?_) (fun c_6 => ?_)
  · exact absurd c_6 (by decide)
  · refine a_iload_n (pc := 9) dX6_hear_9 rfl rfl ?_
    refine a_if_lt (pc := 10) (tgt := 18) dX6_hear_10 (by decide) (fun c_10 => ?_) (fun c_10 => ?_)
    · exact absurd c_10 (by decide)
    · refine a_iload_n (pc := 13) dX6_hear_13 rfl rfl ?_
      refine a_iconst (pc := 14) (v := 1) dX6_hear_14 (by decide) ?_
      refine a_icmp_le (pc := 15) (tgt := 20) dX6_hear_15 (by decide) (fun c_15 => ?_) (fun c_15 => ?_)
      · refine a_iload_n (pc := 20) dX6_hear_20 rfl rfl ?_
        refine a_iconst (pc := 21) (v := 1) dX6_hear_21 (by decide) ?_
        refine a_icmp_ne (pc := 22) (tgt := 29) dX6_hear_22 (by decide) (fun c_22 => ?_) (fun c_22 => ?_)
        · exact absurd c_22 (by decide)
        · refine a_iconst (pc := 25) (v := 1) dX6_hear_25 (by decide) ?_
          refine a_goto (pc := 26) (tgt := 30) dX6_hear_26 (by decide) ?_
          refine a_istore (pc := 30) (al' := [some (.ref _), some (.int _), some (.int _), some (.int _), some (.int _)]) dX6_hear_30 (by decide) rfl rfl ?_
          refine a_aload_n (pc := 32) dX6_hear_32 rfl rfl ?_
          refine a_getr (pc := 33) fl_X6_16 (by assumption) (by decide) (by rfl) dX6_hear_33 ?_
          refine a_iload_n (pc := 36) dX6_hear_36 rfl rfl ?_
          refine a_iload_n (pc := 37) dX6_hear_37 rfl rfl ?_
          refine a_callI2 (pc := 38) ck_X6_67 ⟨(Nat.le_of_ble_eq_true rfl), (Nat.le_of_ble_eq_true rfl)⟩ (by assumption) (by decide) (Nat.le_of_ble_eq_true rfl) dX6_hear_38 rfl (c_X2_hears net_2 (by omega)) ?_
          rintro r u ⟨hr, rfl⟩
          have hr2 : r = 1 := by
            rcases hr with q | q
            · first | exact q.1 | exact absurd q.2 hs
            · first | exact q.1 | exact absurd hs q.2
          subst hr2
          refine a_iload (pc := 41) dX6_hear_41 rfl ?_
          refine a_icmp_ne (pc := 43) (tgt := 49) dX6_hear_43 (by decide) (fun c_43 => ?_) (fun c_43 => ?_)
          · exact absurd c_43 (by decide)
          · refine a_bipush (pc := 46) (v := -2) dX6_hear_46 (by decide) ?_
            refine a_iret (pc := 48) rfl dX6_hear_48 ?_
            exact ⟨rfl, rfl⟩
      · exact absurd c_15 (by decide)

set_option maxHeartbeats 4000000 in
set_option maxRecDepth 100000 in
theorem c_X7_hearS1 {ν : Mem} {N i j : Nat} (h0 : ν 0 2 = nI N) (hN : N ≤ 6) (hi : i < N) (hj : j < N) (hij : i ≠ j) (hs : bitF (ν 2 (420 + i)) (nI j)) : Con shM mX7_hear [.ref 0, .int (nI i), .int (nI j), .int 1] ν (fun r u => r = -2 ∧ ν = u) := by
  have m0 : shM[0]? = some (7, 18, [none, some 1, none, none, none, none, none, some 2, some 3, none, none, some 4, none, none, some 5, some 6, some 7, some 8]) := rfl
  have m1 : shM[1]? = some (100, 200, []) := rfl
  have m2 : shM[2]? = some (100, 1320, []) := rfl
  have m3 : shM[3]? = some (100, 1760, []) := rfl
  have m4 : shM[4]? = some (100, 4, []) := rfl
  have m5 : shM[5]? = some (100, 6, []) := rfl
  have m6 : shM[6]? = some (100, 6, []) := rfl
  have m7 : shM[7]? = some (100, 6, []) := rfl
  have m8 : shM[8]? = some (100, 6, []) := rfl
  refine Con.ofAW (al0 := [some (.ref 0), some (.int (nI i)), some (.int (nI j)), some (.int 1)]) (by decide) rfl (Nat.le_of_ble_eq_true rfl) rfl ?_
  refine a_aload_n (pc := 0) dX7_hear_0 rfl rfl ?_
  refine a_iload_n (pc := 1) dX7_hear_1 rfl rfl ?_
  refine a_iload_n (pc := 2) dX7_hear_2 rfl rfl ?_
  refine a_callI2 (pc := 3) ck_X7_178 ⟨(Nat.le_of_ble_eq_true rfl), (Nat.le_of_ble_eq_true rfl)⟩ (by assumption) (by decide) (Nat.le_of_ble_eq_true rfl) dX7_hear_3 rfl (c_X7_areTwo h0 (by omega) (by omega)) ?_
  rintro r u ⟨hr, rfl⟩
  have hr1 : r = 1 := by
    rcases hr with q | q
    · exact q.1
    · exact absurd ⟨⟨i, hi, rfl⟩, ⟨j, hj, rfl⟩, nI_ne (by omega) (by omega) hij⟩ q.2
  subst hr1
  refine a_if_eq (pc := 6) (tgt := 18) dX7_hear_6 (by decide) (fun c_6 => ?_) (fun c_6 => ?_)
  · exact absurd c_6 (by decide)
  · refine a_iload_n (pc := 9) dX7_hear_9 rfl rfl ?_
    refine a_iconst (pc := 10) (v := 0) dX7_hear_10 (by decide) ?_
    refine a_iconst (pc := 11) (v := 1) dX7_hear_11 (by decide) ?_
    refine a_callS3 (pc := 12) cs_X7_94 ⟨(Nat.le_of_ble_eq_true rfl), (Nat.le_of_ble_eq_true rfl)⟩ (Nat.le_of_ble_eq_true rfl) dX7_hear_12 rfl c_X7_isIn ?_
    rintro r u ⟨hr, rfl⟩
    have hr1 := isin_y hr (by decide)
    subst hr1
    refine a_if_ne (pc := 15) (tgt := 20) dX7_hear_15 (by decide) (fun c_15 => ?_) (fun c_15 => ?_)
    · refine a_aload_n (pc := 20) dX7_hear_20 rfl rfl ?_
      refine a_getr (pc := 21) fl_X7_13 (by assumption) (by decide) (by rfl) dX7_hear_21 ?_
      refine a_sipush (pc := 24) (v := 420) dX7_hear_24 (by decide) ?_
      refine a_iload_n (pc := 27) dX7_hear_27 rfl rfl ?_
      refine a_iaddN (pc := 28) (a := 420) (b := _) rfl rfl dX7_hear_28 ?_
      refine a_iald (pc := 29)  (by assumption) rfl (by omega) (by decide) dX7_hear_29 ?_
      refine a_iload_n (pc := 30) dX7_hear_30 rfl rfl ?_
      refine a_callS2 (pc := 31) cs_X7_105 ⟨(Nat.le_of_ble_eq_true rfl), (Nat.le_of_ble_eq_true rfl)⟩ (Nat.le_of_ble_eq_true rfl) dX7_hear_31 rfl c_X7_has ?_
      rintro r u ⟨hr, rfl⟩
      have hr2 : r = 1 := by
        rcases hr with q | q
        · first | exact q.1 | exact absurd q.2 hs
        · first | exact q.1 | exact absurd hs q.2
      subst hr2
      refine a_iload_n (pc := 34) dX7_hear_34 rfl rfl ?_
      refine a_iconst (pc := 35) (v := 1) dX7_hear_35 (by decide) ?_
      refine a_icmp_ne (pc := 36) (tgt := 43) dX7_hear_36 (by decide) (fun c_36 => ?_) (fun c_36 => ?_)
      · exact absurd c_36 (by decide)
      · refine a_iconst (pc := 39) (v := 1) dX7_hear_39 (by decide) ?_
        refine a_goto (pc := 40) (tgt := 44) dX7_hear_40 (by decide) ?_
        refine a_icmp_eq (pc := 44) (tgt := 69) dX7_hear_44 (by decide) (fun c_44 => ?_) (fun c_44 => ?_)
        · refine a_bipush (pc := 69) (v := -2) dX7_hear_69 (by decide) ?_
          refine a_iret (pc := 71) rfl dX7_hear_71 ?_
          exact ⟨rfl, rfl⟩
        · exact absurd c_44 (by decide)
    · exact absurd c_15 (by decide)

