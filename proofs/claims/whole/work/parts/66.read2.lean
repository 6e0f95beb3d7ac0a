/-! the class reads: what an item does to the trial -/
set_option maxHeartbeats 4000000 in
set_option maxRecDepth 100000 in
theorem c_X3_setStations {μ : Mem} {N : Nat} (h0 : μ 53 0 = nI N) (hN : N ≤ 6) {v : Nat} (hv : v ≤ 9999) : Con shC mX3_setStations [.ref 104, .int (nI v)] μ (fun r u => (r = 1 ∧ (N = 0 ∧ 2 ≤ v ∧ v ≤ 6) ∧ u = up2 μ 53 0 (nI v)) ∨ (r = 0 ∧ ¬ (N = 0 ∧ 2 ≤ v ∧ v ≤ 6) ∧ u = μ)) := by
  have r0 : shC[104]? = some (3, 5, [some 1, some 53, some 105, none, none]) := rfl
  have hn := net_53
  obtain ⟨hn0, hn1, hn2, hnS⟩ := id hn
  refine Con.ofAW (al0 := [some (.ref 104), some (.int (nI v))]) (by decide) rfl (Nat.le_of_ble_eq_true rfl) rfl ?_
  refine a_aload_n (pc := 0) dX3_setStations_0 rfl rfl ?_
  refine a_getr (pc := 1) fl_X3_19 (by assumption) (by decide) (by rfl) dX3_setStations_1 ?_
  refine a_geti (pc := 4) fl_X3_56 (by assumption) (by decide) (by rfl) dX3_setStations_4 ?_
  refine a_top (y := nI N) h0 ?_
  refine a_if_ne (pc := 7) (tgt := 21) dX3_setStations_7 (by decide) (fun c_7 => ?_) (fun c_7 => ?_)
  · have n_7 : ¬ N = 0 := fun e_ => c_7 ((nI_eq (a := N) (b := 0) (by omega) (by omega)).mpr e_)
    refine a_iconst (pc := 21) (v := 0) dX3_setStations_21 (by decide) ?_
    refine a_zret (pc := 22) rfl (by rfl) dX3_setStations_22 ?_
    first | exact Or.inl ⟨rfl, by omega, rfl⟩ | exact Or.inr ⟨rfl, by omega, rfl⟩
  · have n_7 : N = 0 := (nI_eq (a := N) (b := 0) (by omega) (by omega)).mp c_7
    refine a_iload_n (pc := 10) dX3_setStations_10 rfl rfl ?_
    refine a_iconst (pc := 11) (v := 2) dX3_setStations_11 (by decide) ?_
    refine a_icmp_lt (pc := 12) (tgt := 21) dX3_setStations_12 (by decide) (fun c_12 => ?_) (fun c_12 => ?_)
    · have n_12 : v < 2 := (nI_ltI (a := v) (b := 2) (by omega) (by omega)).mp c_12
      refine a_iconst (pc := 21) (v := 0) dX3_setStations_21 (by decide) ?_
      refine a_zret (pc := 22) rfl (by rfl) dX3_setStations_22 ?_
      first | exact Or.inl ⟨rfl, by omega, rfl⟩ | exact Or.inr ⟨rfl, by omega, rfl⟩
    · have n_12 : 2 ≤ v := (nI_leI (a := 2) (b := v) (by omega) (by omega)).mp (Int32.not_lt.mp c_12)
      refine a_iload_n (pc := 15) dX3_setStations_15 rfl rfl ?_
      refine a_bipush (pc := 16) (v := 6) dX3_setStations_16 (by decide) ?_
      refine a_icmp_le (pc := 18) (tgt := 23) dX3_setStations_18 (by decide) (fun c_18 => ?_) (fun c_18 => ?_)
      · have n_18 : v ≤ 6 := (nI_leI (a := v) (b := 6) (by omega) (by omega)).mp c_18
        refine a_aload_n (pc := 23) dX3_setStations_23 rfl rfl ?_
        refine a_getr (pc := 24) fl_X3_19 (by assumption) (by decide) (by rfl) dX3_setStations_24 ?_
        refine a_iload_n (pc := 27) dX3_setStations_27 rfl rfl ?_
        refine a_puti (pc := 28) fp_X3_56 (by assumption) (by decide) (by rfl) dX3_setStations_28 ?_
        refine a_iconst (pc := 31) (v := 1) dX3_setStations_31 (by decide) ?_
        refine a_zret (pc := 32) rfl (by rfl) dX3_setStations_32 ?_
        first | exact Or.inl ⟨rfl, by omega, rfl⟩ | exact Or.inr ⟨rfl, by omega, rfl⟩
      · have n_18 : 6 < v := (nI_ltI (a := 6) (b := v) (by omega) (by omega)).mp (Int32.not_le.mp c_18)
        refine a_iconst (pc := 21) (v := 0) dX3_setStations_21 (by decide) ?_
        refine a_zret (pc := 22) rfl (by rfl) dX3_setStations_22 ?_
        first | exact Or.inl ⟨rfl, by omega, rfl⟩ | exact Or.inr ⟨rfl, by omega, rfl⟩

set_option maxHeartbeats 4000000 in
set_option maxRecDepth 100000 in
theorem c_X3_arePair {μ : Mem} {N : Nat} (h0 : μ 53 0 = nI N) (hN : N ≤ 6) {i j : Nat} (hi : i ≤ 9999) (hj : j ≤ 9999) : Con shC mX3_arePair [.ref 104, .int (nI i), .int (nI j)] μ (fun r u => (r = 1 ∧ (i < N ∧ j < N ∧ i ≠ j) ∨ r = 0 ∧ ¬ (i < N ∧ j < N ∧ i ≠ j)) ∧ μ = u) := by
  have r0 : shC[104]? = some (3, 5, [some 1, some 53, some 105, none, none]) := rfl
  have hn := net_53
  obtain ⟨hn0, hn1, hn2, hnS⟩ := id hn
  refine Con.ofAW (al0 := [some (.ref 104), some (.int (nI i)), some (.int (nI j))]) (by decide) rfl (Nat.le_of_ble_eq_true rfl) rfl ?_
  refine a_iload_n (pc := 0) dX3_arePair_0 rfl rfl ?_
  refine a_if_lt (pc := 1) (tgt := 39) dX3_arePair_1 (by decide) (fun c_1 => ?_) (fun c_1 => ?_)
  · have n_1 : i < 0 := (nI_ltI (a := i) (b := 0) (by omega) (by omega)).mp c_1
    refine a_iconst (pc := 39) (v := 0) dX3_arePair_39 (by decide) ?_
    refine a_zret (pc := 40) rfl (by rfl) dX3_arePair_40 ?_
    refine ⟨?_, rfl⟩
    first | exact Or.inl ⟨rfl, by omega⟩ | exact Or.inr ⟨rfl, by omega⟩
  · have n_1 : 0 ≤ i := (nI_leI (a := 0) (b := i) (by omega) (by omega)).mp (Int32.not_lt.mp c_1)
    refine a_iload_n (pc := 4) dX3_arePair_4 rfl rfl ?_
    refine a_aload_n (pc := 5) dX3_arePair_5 rfl rfl ?_
    refine a_getr (pc := 6) fl_X3_19 (by assumption) (by decide) (by rfl) dX3_arePair_6 ?_
    refine a_geti (pc := 9) fl_X3_56 (by assumption) (by decide) (by rfl) dX3_arePair_9 ?_
    refine a_top (y := nI N) h0 ?_
    refine a_icmp_ge (pc := 12) (tgt := 39) dX3_arePair_12 (by decide) (fun c_12 => ?_) (fun c_12 => ?_)
    · have n_12 : N ≤ i := (nI_leI (a := N) (b := i) (by omega) (by omega)).mp c_12
      refine a_iconst (pc := 39) (v := 0) dX3_arePair_39 (by decide) ?_
      refine a_zret (pc := 40) rfl (by rfl) dX3_arePair_40 ?_
      refine ⟨?_, rfl⟩
      first | exact Or.inl ⟨rfl, by omega⟩ | exact Or.inr ⟨rfl, by omega⟩
    · have n_12 : i < N := (nI_ltI (a := i) (b := N) (by omega) (by omega)).mp (Int32.not_le.mp c_12)
      refine a_iload_n (pc := 15) dX3_arePair_15 rfl rfl ?_
      refine a_if_lt (pc := 16) (tgt := 39) dX3_arePair_16 (by decide) (fun c_16 => ?_) (fun c_16 => ?_)
      · have n_16 : j < 0 := (nI_ltI (a := j) (b := 0) (by omega) (by omega)).mp c_16
        refine a_iconst (pc := 39) (v := 0) dX3_arePair_39 (by decide) ?_
        refine a_zret (pc := 40) rfl (by rfl) dX3_arePair_40 ?_
        refine ⟨?_, rfl⟩
        first | exact Or.inl ⟨rfl, by omega⟩ | exact Or.inr ⟨rfl, by omega⟩
      · have n_16 : 0 ≤ j := (nI_leI (a := 0) (b := j) (by omega) (by omega)).mp (Int32.not_lt.mp c_16)
        refine a_iload_n (pc := 19) dX3_arePair_19 rfl rfl ?_
        refine a_aload_n (pc := 20) dX3_arePair_20 rfl rfl ?_
        refine a_getr (pc := 21) fl_X3_19 (by assumption) (by decide) (by rfl) dX3_arePair_21 ?_
        refine a_geti (pc := 24) fl_X3_56 (by assumption) (by decide) (by rfl) dX3_arePair_24 ?_
        refine a_top (y := nI N) h0 ?_
        refine a_icmp_ge (pc := 27) (tgt := 39) dX3_arePair_27 (by decide) (fun c_27 => ?_) (fun c_27 => ?_)
        · have n_27 : N ≤ j := (nI_leI (a := N) (b := j) (by omega) (by omega)).mp c_27
          refine a_iconst (pc := 39) (v := 0) dX3_arePair_39 (by decide) ?_
          refine a_zret (pc := 40) rfl (by rfl) dX3_arePair_40 ?_
          refine ⟨?_, rfl⟩
          first | exact Or.inl ⟨rfl, by omega⟩ | exact Or.inr ⟨rfl, by omega⟩
        · have n_27 : j < N := (nI_ltI (a := j) (b := N) (by omega) (by omega)).mp (Int32.not_le.mp c_27)
          refine a_iload_n (pc := 30) dX3_arePair_30 rfl rfl ?_
          refine a_iload_n (pc := 31) dX3_arePair_31 rfl rfl ?_
          refine a_icmp_eq (pc := 32) (tgt := 39) dX3_arePair_32 (by decide) (fun c_32 => ?_) (fun c_32 => ?_)
          · have n_32 : i = j := (nI_eq (a := i) (b := j) (by omega) (by omega)).mp c_32
            refine a_iconst (pc := 39) (v := 0) dX3_arePair_39 (by decide) ?_
            refine a_zret (pc := 40) rfl (by rfl) dX3_arePair_40 ?_
            refine ⟨?_, rfl⟩
            first | exact Or.inl ⟨rfl, by omega⟩ | exact Or.inr ⟨rfl, by omega⟩
          · have n_32 : ¬ i = j := fun e_ => c_32 ((nI_eq (a := i) (b := j) (by omega) (by omega)).mpr e_)
            refine a_iconst (pc := 35) (v := 1) dX3_arePair_35 (by decide) ?_
            refine a_goto (pc := 36) (tgt := 40) dX3_arePair_36 (by decide) ?_
            refine a_zret (pc := 40) rfl (by rfl) dX3_arePair_40 ?_
            refine ⟨?_, rfl⟩
            first | exact Or.inl ⟨rfl, by omega⟩ | exact Or.inr ⟨rfl, by omega⟩

set_option maxHeartbeats 4000000 in
set_option maxRecDepth 100000 in
theorem c_X3_applyHear {μ : Mem} {N : Nat} (h0 : μ 53 0 = nI N) (hN : N ≤ 6) {i j : Nat} (hi : i ≤ 9999) (hj : j ≤ 9999) : Con shC mX3_applyHear [.ref 104, .int (nI i), .int (nI j)] μ (fun r u => (r = 1 ∧ (i < N ∧ j < N ∧ i ≠ j) ∧ u = jonF μ 53 i j) ∨ (r = 0 ∧ ¬ (i < N ∧ j < N ∧ i ≠ j) ∧ u = μ)) := by
  have r0 : shC[104]? = some (3, 5, [some 1, some 53, some 105, none, none]) := rfl
  have hn := net_53
  obtain ⟨hn0, hn1, hn2, hnS⟩ := id hn
  refine Con.ofAW (al0 := [some (.ref 104), some (.int (nI i)), some (.int (nI j))]) (by decide) rfl (Nat.le_of_ble_eq_true rfl) rfl ?_
  refine a_aload_n (pc := 0) dX3_applyHear_0 rfl rfl ?_
  refine a_iload_n (pc := 1) dX3_applyHear_1 rfl rfl ?_
  refine a_iload_n (pc := 2) dX3_applyHear_2 rfl rfl ?_
  refine a_callI2 (pc := 3) ck_X3_87 ⟨(Nat.le_of_ble_eq_true rfl), (Nat.le_of_ble_eq_true rfl)⟩ (by assumption) (by decide) (Nat.le_of_ble_eq_true rfl) dX3_applyHear_3 rfl (c_X3_arePair h0 hN hi hj) ?_
  rintro r_ u ⟨hr_, rfl⟩
  refine a_if_ne (pc := 6) (tgt := 11) dX3_applyHear_6 (by decide) (fun c_6 => ?_) (fun c_6 => ?_)
  · have hpr := (hr_.resolve_right (fun w => c_6 w.1)).2
    refine a_aload_n (pc := 11) dX3_applyHear_11 rfl rfl ?_
    refine a_getr (pc := 12) fl_X3_19 (by assumption) (by decide) (by rfl) dX3_applyHear_12 ?_
    refine a_iload_n (pc := 15) dX3_applyHear_15 rfl rfl ?_
    refine a_iload_n (pc := 16) dX3_applyHear_16 rfl rfl ?_
    refine a_iconst (pc := 17) (v := 1) dX3_applyHear_17 (by decide) ?_
    refine a_callV3 (pc := 18) ck_X3_90 ⟨(Nat.le_of_ble_eq_true rfl), (Nat.le_of_ble_eq_true rfl)⟩ (by assumption) (by decide) (Nat.le_of_ble_eq_true rfl) dX3_applyHear_18 rfl (c_X2_join1 net_53 (by omega) (by omega) hpr.2.2) ?_
    rintro u rfl
    refine a_iconst (pc := 21) (v := 1) dX3_applyHear_21 (by decide) ?_
    refine a_zret (pc := 22) rfl (by rfl) dX3_applyHear_22 ?_
    exact Or.inl ⟨rfl, hpr, rfl⟩
  · refine a_iconst (pc := 9) (v := 0) dX3_applyHear_9 (by decide) ?_
    refine a_zret (pc := 10) rfl (by rfl) dX3_applyHear_10 ?_
    exact Or.inr ⟨rfl, (hr_.resolve_left (fun w => absurd (w.1.symm.trans c_6) (by decide))).2, rfl⟩

set_option maxHeartbeats 4000000 in
set_option maxRecDepth 100000 in
theorem c_X3_applyLetter {μ : Mem} {N : Nat} (h0 : μ 53 0 = nI N) (hN : N ≤ 6) {i j c : Nat} {sz : Nat → Nat} (hi : i ≤ 9999) (hj : j ≤ 9999) (hc : c ≤ 9999) (hs : ∀ i, i < 6 → μ (stA 53 i + 1) 0 = nI (sz i) ∧ sz i ≤ 6) : Con shC mX3_applyLetter [.ref 104, .int (nI i), .int (nI j), .int (nI c)] μ (fun r u => (r = 1 ∧ (i < N ∧ j < N ∧ i ≠ j ∧ 1 ≤ c ∧ c ≤ 9 ∧ bitF (μ (stA 53 i) 0) (nI j) ∧ sz i < 6) ∧ u = addF μ (stA 53 i + 1) (sz i) (nI j) (nI c)) ∨ (r = 0 ∧ ¬ (i < N ∧ j < N ∧ i ≠ j ∧ 1 ≤ c ∧ c ≤ 9 ∧ bitF (μ (stA 53 i) 0) (nI j) ∧ sz i < 6) ∧ u = μ)) := by
  have r0 : shC[104]? = some (3, 5, [some 1, some 53, some 105, none, none]) := rfl
  have hn := net_53
  obtain ⟨hn0, hn1, hn2, hnS⟩ := id hn
  have hsz : i < 6 → sz i ≤ 6 := fun q => (hs i q).2
  refine Con.ofAW (al0 := [some (.ref 104), some (.int (nI i)), some (.int (nI j)), some (.int (nI c)), none]) (by decide) rfl (Nat.le_of_ble_eq_true rfl) rfl ?_
  refine a_aload_n (pc := 0) dX3_applyLetter_0 rfl rfl ?_
  refine a_iload_n (pc := 1) dX3_applyLetter_1 rfl rfl ?_
  refine a_iload_n (pc := 2) dX3_applyLetter_2 rfl rfl ?_
  refine a_callI2 (pc := 3) ck_X3_87 ⟨(Nat.le_of_ble_eq_true rfl), (Nat.le_of_ble_eq_true rfl)⟩ (by assumption) (by decide) (Nat.le_of_ble_eq_true rfl) dX3_applyLetter_3 rfl (c_X3_arePair h0 hN hi hj) ?_
  rintro r_ u ⟨hr_, rfl⟩
  refine a_if_eq (pc := 6) (tgt := 32) dX3_applyLetter_6 (by decide) (fun c_6 => ?_) (fun c_6 => ?_)
  · refine a_iconst (pc := 32) (v := 0) dX3_applyLetter_32 (by decide) ?_
    refine a_zret (pc := 33) rfl (by rfl) dX3_applyLetter_33 ?_
    first
    | exact Or.inr ⟨rfl, fun q => absurd n_11 (by omega), rfl⟩
    | exact Or.inr ⟨rfl, fun q => absurd n_17 (by omega), rfl⟩
    | exact Or.inr ⟨rfl, fun q => (hr_.resolve_left (fun w => absurd (w.1.symm.trans c_6) (by decide))).2 ⟨q.1, q.2.1, q.2.2.1⟩, rfl⟩
    | exact Or.inr ⟨rfl, fun q => (hr2.resolve_left (fun w => absurd (w.1.symm.trans c_29) (by decide))).2 q.2.2.2.2.2.1, rfl⟩
  · have hpr := (hr_.resolve_right (fun w => c_6 w.1)).2
    refine a_iload_n (pc := 9) dX3_applyLetter_9 rfl rfl ?_
    refine a_iconst (pc := 10) (v := 1) dX3_applyLetter_10 (by decide) ?_
    refine a_icmp_lt (pc := 11) (tgt := 32) dX3_applyLetter_11 (by decide) (fun c_11 => ?_) (fun c_11 => ?_)
    · have n_11 : c < 1 := (nI_ltI (a := c) (b := 1) (by omega) (by omega)).mp c_11
      refine a_iconst (pc := 32) (v := 0) dX3_applyLetter_32 (by decide) ?_
      refine a_zret (pc := 33) rfl (by rfl) dX3_applyLetter_33 ?_
      first
      | exact Or.inr ⟨rfl, fun q => absurd n_11 (by omega), rfl⟩
      | exact Or.inr ⟨rfl, fun q => absurd n_17 (by omega), rfl⟩
      | exact Or.inr ⟨rfl, fun q => (hr_.resolve_left (fun w => absurd (w.1.symm.trans c_6) (by decide))).2 ⟨q.1, q.2.1, q.2.2.1⟩, rfl⟩
      | exact Or.inr ⟨rfl, fun q => (hr2.resolve_left (fun w => absurd (w.1.symm.trans c_29) (by decide))).2 q.2.2.2.2.2.1, rfl⟩
    · have n_11 : 1 ≤ c := (nI_leI (a := 1) (b := c) (by omega) (by omega)).mp (Int32.not_lt.mp c_11)
      refine a_iload_n (pc := 14) dX3_applyLetter_14 rfl rfl ?_
      refine a_bipush (pc := 15) (v := 9) dX3_applyLetter_15 (by decide) ?_
      refine a_icmp_gt (pc := 17) (tgt := 32) dX3_applyLetter_17 (by decide) (fun c_17 => ?_) (fun c_17 => ?_)
      · have n_17 : 9 < c := (nI_ltI (a := 9) (b := c) (by omega) (by omega)).mp c_17
        refine a_iconst (pc := 32) (v := 0) dX3_applyLetter_32 (by decide) ?_
        refine a_zret (pc := 33) rfl (by rfl) dX3_applyLetter_33 ?_
        first
        | exact Or.inr ⟨rfl, fun q => absurd n_11 (by omega), rfl⟩
        | exact Or.inr ⟨rfl, fun q => absurd n_17 (by omega), rfl⟩
        | exact Or.inr ⟨rfl, fun q => (hr_.resolve_left (fun w => absurd (w.1.symm.trans c_6) (by decide))).2 ⟨q.1, q.2.1, q.2.2.1⟩, rfl⟩
        | exact Or.inr ⟨rfl, fun q => (hr2.resolve_left (fun w => absurd (w.1.symm.trans c_29) (by decide))).2 q.2.2.2.2.2.1, rfl⟩
      · have n_17 : c ≤ 9 := (nI_leI (a := c) (b := 9) (by omega) (by omega)).mp (Int32.not_lt.mp c_17)
        refine a_aload_n (pc := 20) dX3_applyLetter_20 rfl rfl ?_
        refine a_getr (pc := 21) fl_X3_19 (by assumption) (by decide) (by rfl) dX3_applyLetter_21 ?_
        refine a_iload_n (pc := 24) dX3_applyLetter_24 rfl rfl ?_
        refine a_iload_n (pc := 25) dX3_applyLetter_25 rfl rfl ?_
        refine a_callI2 (pc := 26) ck_X3_94 ⟨(Nat.le_of_ble_eq_true rfl), (Nat.le_of_ble_eq_true rfl)⟩ (by assumption) (by decide) (Nat.le_of_ble_eq_true rfl) dX3_applyLetter_26 rfl (c_X2_hears net_53 (by omega)) ?_
        rintro r2 u ⟨hr2, rfl⟩
        refine a_if_ne (pc := 29) (tgt := 34) dX3_applyLetter_29 (by decide) (fun c_29 => ?_) (fun c_29 => ?_)
        · have hbt := (hr2.resolve_right (fun w => c_29 w.1)).2
          have ws := hnS i (by omega)
          have w0 := ws.1
          have w1 := ws.2.1.1
          refine a_aload_n (pc := 34) dX3_applyLetter_34 rfl rfl ?_
          refine a_getr (pc := 35) fl_X3_19 (by assumption) (by decide) (by rfl) dX3_applyLetter_35 ?_
          refine a_getr (pc := 38) fl_X3_97 (by assumption) (by decide) (by rfl) dX3_applyLetter_38 ?_
          refine a_iload_n (pc := 41) dX3_applyLetter_41 rfl rfl ?_
          refine a_aald2 (pc := 42)  (by assumption) rfl (by omega) (by decide) (all_at (by omega)) dX3_applyLetter_42 ?_
          refine a_getr (pc := 43) fl_X3_101 (by assumption) (by decide) (by rfl) dX3_applyLetter_43 ?_
          refine a_astore (pc := 46) (al' := [some (.ref _), some (.int _), some (.int _), some (.int _), some (.ref _)]) dX3_applyLetter_46 (by decide) rfl rfl ?_
          refine a_aload (pc := 48) dX3_applyLetter_48 rfl ?_
          refine a_geti (pc := 50) fl_X3_107 (by assumption) (by decide) (by rfl) dX3_applyLetter_50 ?_
          refine a_top (y := nI (sz i)) (hs i (by omega)).1 ?_
          refine a_bipush (pc := 53) (v := 6) dX3_applyLetter_53 (by decide) ?_
          refine a_icmp_lt (pc := 55) (tgt := 60) dX3_applyLetter_55 (by decide) (fun c_55 => ?_) (fun c_55 => ?_)
          · have n_55 : sz i < 6 := (nI_ltI (a := sz i) (b := 6) (by omega) (by omega)).mp c_55
            refine a_aload (pc := 60) dX3_applyLetter_60 rfl ?_
            refine a_iload_n (pc := 62) dX3_applyLetter_62 rfl rfl ?_
            refine a_iload_n (pc := 63) dX3_applyLetter_63 rfl rfl ?_
            refine a_callV2 (pc := 64) ck_X3_112 ⟨(Nat.le_of_ble_eq_true rfl), (Nat.le_of_ble_eq_true rfl)⟩ (by assumption) (by decide) (Nat.le_of_ble_eq_true rfl) dX3_applyLetter_64 rfl (c_X0_add ws.2.1 (hs i (by omega)).1 n_55) ?_
            rintro u rfl
            refine a_iconst (pc := 67) (v := 1) dX3_applyLetter_67 (by decide) ?_
            refine a_zret (pc := 68) rfl (by rfl) dX3_applyLetter_68 ?_
            exact Or.inl ⟨rfl, ⟨hpr.1, hpr.2.1, hpr.2.2, n_11, n_17, hbt, n_55⟩, rfl⟩
          · have n_55 : 6 ≤ sz i := (nI_leI (a := 6) (b := sz i) (by omega) (by omega)).mp (Int32.not_lt.mp c_55)
            refine a_iconst (pc := 58) (v := 0) dX3_applyLetter_58 (by decide) ?_
            refine a_zret (pc := 59) rfl (by rfl) dX3_applyLetter_59 ?_
            exact Or.inr ⟨rfl, fun q => absurd n_55 (by omega), rfl⟩
        · refine a_iconst (pc := 32) (v := 0) dX3_applyLetter_32 (by decide) ?_
          refine a_zret (pc := 33) rfl (by rfl) dX3_applyLetter_33 ?_
          first
          | exact Or.inr ⟨rfl, fun q => absurd n_11 (by omega), rfl⟩
          | exact Or.inr ⟨rfl, fun q => absurd n_17 (by omega), rfl⟩
          | exact Or.inr ⟨rfl, fun q => (hr_.resolve_left (fun w => absurd (w.1.symm.trans c_6) (by decide))).2 ⟨q.1, q.2.1, q.2.2.1⟩, rfl⟩
          | exact Or.inr ⟨rfl, fun q => (hr2.resolve_left (fun w => absurd (w.1.symm.trans c_29) (by decide))).2 q.2.2.2.2.2.1, rfl⟩

set_option maxHeartbeats 4000000 in
set_option maxRecDepth 100000 in
theorem c_X3_applyWindows {μ : Mem} {a b : Nat} (ha : a ≤ 9999) (hb : b ≤ 9999) : Con shC mX3_applyWindows [.ref 104, .int (nI a), .int (nI b)] μ (fun r u => (r = 1 ∧ (1 ≤ a ∧ a ≤ 16 ∧ a ≤ b ∧ b ≤ 64) ∧ u = up2 (up2 μ 53 1 (nI a)) 53 2 (nI b)) ∨ (r = 0 ∧ ¬ (1 ≤ a ∧ a ≤ 16 ∧ a ≤ b ∧ b ≤ 64) ∧ u = μ)) := by
  have r0 : shC[104]? = some (3, 5, [some 1, some 53, some 105, none, none]) := rfl
  have hn := net_53
  obtain ⟨hn0, hn1, hn2, hnS⟩ := id hn
  refine Con.ofAW (al0 := [some (.ref 104), some (.int (nI a)), some (.int (nI b))]) (by decide) rfl (Nat.le_of_ble_eq_true rfl) rfl ?_
  refine a_iload_n (pc := 0) dX3_applyWindows_0 rfl rfl ?_
  refine a_iconst (pc := 1) (v := 1) dX3_applyWindows_1 (by decide) ?_
  refine a_icmp_lt (pc := 2) (tgt := 22) dX3_applyWindows_2 (by decide) (fun c_2 => ?_) (fun c_2 => ?_)
  · have n_2 : a < 1 := (nI_ltI (a := a) (b := 1) (by omega) (by omega)).mp c_2
    refine a_iconst (pc := 22) (v := 0) dX3_applyWindows_22 (by decide) ?_
    refine a_zret (pc := 23) rfl (by rfl) dX3_applyWindows_23 ?_
    first | exact Or.inl ⟨rfl, by omega, rfl⟩ | exact Or.inr ⟨rfl, by omega, rfl⟩
  · have n_2 : 1 ≤ a := (nI_leI (a := 1) (b := a) (by omega) (by omega)).mp (Int32.not_lt.mp c_2)
    refine a_iload_n (pc := 5) dX3_applyWindows_5 rfl rfl ?_
    refine a_bipush (pc := 6) (v := 16) dX3_applyWindows_6 (by decide) ?_
    refine a_icmp_gt (pc := 8) (tgt := 22) dX3_applyWindows_8 (by decide) (fun c_8 => ?_) (fun c_8 => ?_)
    · have n_8 : 16 < a := (nI_ltI (a := 16) (b := a) (by omega) (by omega)).mp c_8
      refine a_iconst (pc := 22) (v := 0) dX3_applyWindows_22 (by decide) ?_
      refine a_zret (pc := 23) rfl (by rfl) dX3_applyWindows_23 ?_
      first | exact Or.inl ⟨rfl, by omega, rfl⟩ | exact Or.inr ⟨rfl, by omega, rfl⟩
    · have n_8 : a ≤ 16 := (nI_leI (a := a) (b := 16) (by omega) (by omega)).mp (Int32.not_lt.mp c_8)
      refine a_iload_n (pc := 11) dX3_applyWindows_11 rfl rfl ?_
      refine a_iload_n (pc := 12) dX3_applyWindows_12 rfl rfl ?_
      refine a_icmp_lt (pc := 13) (tgt := 22) dX3_applyWindows_13 (by decide) (fun c_13 => ?_) (fun c_13 => ?_)
      · have n_13 : b < a := (nI_ltI (a := b) (b := a) (by omega) (by omega)).mp c_13
        refine a_iconst (pc := 22) (v := 0) dX3_applyWindows_22 (by decide) ?_
        refine a_zret (pc := 23) rfl (by rfl) dX3_applyWindows_23 ?_
        first | exact Or.inl ⟨rfl, by omega, rfl⟩ | exact Or.inr ⟨rfl, by omega, rfl⟩
      · have n_13 : a ≤ b := (nI_leI (a := a) (b := b) (by omega) (by omega)).mp (Int32.not_lt.mp c_13)
        refine a_iload_n (pc := 16) dX3_applyWindows_16 rfl rfl ?_
        refine a_bipush (pc := 17) (v := 64) dX3_applyWindows_17 (by decide) ?_
        refine a_icmp_le (pc := 19) (tgt := 24) dX3_applyWindows_19 (by decide) (fun c_19 => ?_) (fun c_19 => ?_)
        · have n_19 : b ≤ 64 := (nI_leI (a := b) (b := 64) (by omega) (by omega)).mp c_19
          refine a_aload_n (pc := 24) dX3_applyWindows_24 rfl rfl ?_
          refine a_getr (pc := 25) fl_X3_19 (by assumption) (by decide) (by rfl) dX3_applyWindows_25 ?_
          refine a_iload_n (pc := 28) dX3_applyWindows_28 rfl rfl ?_
          refine a_puti (pc := 29) fp_X3_116 (by assumption) (by decide) (by rfl) dX3_applyWindows_29 ?_
          refine a_aload_n (pc := 32) dX3_applyWindows_32 rfl rfl ?_
          refine a_getr (pc := 33) fl_X3_19 (by assumption) (by decide) (by rfl) dX3_applyWindows_33 ?_
          refine a_iload_n (pc := 36) dX3_applyWindows_36 rfl rfl ?_
          refine a_puti (pc := 37) fp_X3_119 (by assumption) (by decide) (by rfl) dX3_applyWindows_37 ?_
          refine a_iconst (pc := 40) (v := 1) dX3_applyWindows_40 (by decide) ?_
          refine a_zret (pc := 41) rfl (by rfl) dX3_applyWindows_41 ?_
          first | exact Or.inl ⟨rfl, by omega, rfl⟩ | exact Or.inr ⟨rfl, by omega, rfl⟩
        · have n_19 : 64 < b := (nI_ltI (a := 64) (b := b) (by omega) (by omega)).mp (Int32.not_le.mp c_19)
          refine a_iconst (pc := 22) (v := 0) dX3_applyWindows_22 (by decide) ?_
          refine a_zret (pc := 23) rfl (by rfl) dX3_applyWindows_23 ?_
          first | exact Or.inl ⟨rfl, by omega, rfl⟩ | exact Or.inr ⟨rfl, by omega, rfl⟩

set_option maxHeartbeats 4000000 in
set_option maxRecDepth 100000 in
theorem c_X3_applyTries {μ : Mem} {a b : Nat} (ha : a ≤ 9999) (hb : b ≤ 9999) : Con shC mX3_applyTries [.ref 104, .int (nI a), .int (nI b)] μ (fun r u => (r = 1 ∧ (1 ≤ a ∧ a ≤ 10 ∧ 1 ≤ b ∧ b ≤ 7) ∧ u = up2 (up2 μ 53 3 (nI a)) 53 4 (nI b)) ∨ (r = 0 ∧ ¬ (1 ≤ a ∧ a ≤ 10 ∧ 1 ≤ b ∧ b ≤ 7) ∧ u = μ)) := by
  have r0 : shC[104]? = some (3, 5, [some 1, some 53, some 105, none, none]) := rfl
  have hn := net_53
  obtain ⟨hn0, hn1, hn2, hnS⟩ := id hn
  refine Con.ofAW (al0 := [some (.ref 104), some (.int (nI a)), some (.int (nI b))]) (by decide) rfl (Nat.le_of_ble_eq_true rfl) rfl ?_
  refine a_iload_n (pc := 0) dX3_applyTries_0 rfl rfl ?_
  refine a_iconst (pc := 1) (v := 1) dX3_applyTries_1 (by decide) ?_
  refine a_icmp_lt (pc := 2) (tgt := 22) dX3_applyTries_2 (by decide) (fun c_2 => ?_) (fun c_2 => ?_)
  · have n_2 : a < 1 := (nI_ltI (a := a) (b := 1) (by omega) (by omega)).mp c_2
    refine a_iconst (pc := 22) (v := 0) dX3_applyTries_22 (by decide) ?_
    refine a_zret (pc := 23) rfl (by rfl) dX3_applyTries_23 ?_
    first | exact Or.inl ⟨rfl, by omega, rfl⟩ | exact Or.inr ⟨rfl, by omega, rfl⟩
  · have n_2 : 1 ≤ a := (nI_leI (a := 1) (b := a) (by omega) (by omega)).mp (Int32.not_lt.mp c_2)
    refine a_iload_n (pc := 5) dX3_applyTries_5 rfl rfl ?_
    refine a_bipush (pc := 6) (v := 10) dX3_applyTries_6 (by decide) ?_
    refine a_icmp_gt (pc := 8) (tgt := 22) dX3_applyTries_8 (by decide) (fun c_8 => ?_) (fun c_8 => ?_)
    · have n_8 : 10 < a := (nI_ltI (a := 10) (b := a) (by omega) (by omega)).mp c_8
      refine a_iconst (pc := 22) (v := 0) dX3_applyTries_22 (by decide) ?_
      refine a_zret (pc := 23) rfl (by rfl) dX3_applyTries_23 ?_
      first | exact Or.inl ⟨rfl, by omega, rfl⟩ | exact Or.inr ⟨rfl, by omega, rfl⟩
    · have n_8 : a ≤ 10 := (nI_leI (a := a) (b := 10) (by omega) (by omega)).mp (Int32.not_lt.mp c_8)
      refine a_iload_n (pc := 11) dX3_applyTries_11 rfl rfl ?_
      refine a_iconst (pc := 12) (v := 1) dX3_applyTries_12 (by decide) ?_
      refine a_icmp_lt (pc := 13) (tgt := 22) dX3_applyTries_13 (by decide) (fun c_13 => ?_) (fun c_13 => ?_)
      · have n_13 : b < 1 := (nI_ltI (a := b) (b := 1) (by omega) (by omega)).mp c_13
        refine a_iconst (pc := 22) (v := 0) dX3_applyTries_22 (by decide) ?_
        refine a_zret (pc := 23) rfl (by rfl) dX3_applyTries_23 ?_
        first | exact Or.inl ⟨rfl, by omega, rfl⟩ | exact Or.inr ⟨rfl, by omega, rfl⟩
      · have n_13 : 1 ≤ b := (nI_leI (a := 1) (b := b) (by omega) (by omega)).mp (Int32.not_lt.mp c_13)
        refine a_iload_n (pc := 16) dX3_applyTries_16 rfl rfl ?_
        refine a_bipush (pc := 17) (v := 7) dX3_applyTries_17 (by decide) ?_
        refine a_icmp_le (pc := 19) (tgt := 24) dX3_applyTries_19 (by decide) (fun c_19 => ?_) (fun c_19 => ?_)
        · have n_19 : b ≤ 7 := (nI_leI (a := b) (b := 7) (by omega) (by omega)).mp c_19
          refine a_aload_n (pc := 24) dX3_applyTries_24 rfl rfl ?_
          refine a_getr (pc := 25) fl_X3_19 (by assumption) (by decide) (by rfl) dX3_applyTries_25 ?_
          refine a_iload_n (pc := 28) dX3_applyTries_28 rfl rfl ?_
          refine a_puti (pc := 29) fp_X3_122 (by assumption) (by decide) (by rfl) dX3_applyTries_29 ?_
          refine a_aload_n (pc := 32) dX3_applyTries_32 rfl rfl ?_
          refine a_getr (pc := 33) fl_X3_19 (by assumption) (by decide) (by rfl) dX3_applyTries_33 ?_
          refine a_iload_n (pc := 36) dX3_applyTries_36 rfl rfl ?_
          refine a_puti (pc := 37) fp_X3_125 (by assumption) (by decide) (by rfl) dX3_applyTries_37 ?_
          refine a_iconst (pc := 40) (v := 1) dX3_applyTries_40 (by decide) ?_
          refine a_zret (pc := 41) rfl (by rfl) dX3_applyTries_41 ?_
          first | exact Or.inl ⟨rfl, by omega, rfl⟩ | exact Or.inr ⟨rfl, by omega, rfl⟩
        · have n_19 : 7 < b := (nI_ltI (a := 7) (b := b) (by omega) (by omega)).mp (Int32.not_le.mp c_19)
          refine a_iconst (pc := 22) (v := 0) dX3_applyTries_22 (by decide) ?_
          refine a_zret (pc := 23) rfl (by rfl) dX3_applyTries_23 ?_
          first | exact Or.inl ⟨rfl, by omega, rfl⟩ | exact Or.inr ⟨rfl, by omega, rfl⟩

set_option maxHeartbeats 4000000 in
set_option maxRecDepth 100000 in
theorem c_X3_applySeed {μ : Mem} {a : Nat} (ha : a ≤ 9999) : Con shC mX3_applySeed [.ref 104, .int (nI a)] μ (fun r u => r = 1 ∧ u = up2 μ 53 5 (nI a)) := by
  have r0 : shC[104]? = some (3, 5, [some 1, some 53, some 105, none, none]) := rfl
  have hn := net_53
  obtain ⟨hn0, hn1, hn2, hnS⟩ := id hn
  refine Con.ofAW (al0 := [some (.ref 104), some (.int (nI a))]) (by decide) rfl (Nat.le_of_ble_eq_true rfl) rfl ?_
  refine a_iload_n (pc := 0) dX3_applySeed_0 rfl rfl ?_
  refine a_if_lt (pc := 1) (tgt := 11) dX3_applySeed_1 (by decide) (fun c_1 => ?_) (fun c_1 => ?_)
  · have n_1 : a < 0 := (nI_ltI (a := a) (b := 0) (by omega) (by omega)).mp c_1
    omega
  · have n_1 : 0 ≤ a := (nI_leI (a := 0) (b := a) (by omega) (by omega)).mp (Int32.not_lt.mp c_1)
    refine a_iload_n (pc := 4) dX3_applySeed_4 rfl rfl ?_
    refine a_sipush (pc := 5) (v := 9999) dX3_applySeed_5 (by decide) ?_
    refine a_icmp_le (pc := 8) (tgt := 13) dX3_applySeed_8 (by decide) (fun c_8 => ?_) (fun c_8 => ?_)
    · have n_8 : a ≤ 9999 := (nI_leI (a := a) (b := 9999) (by omega) (by omega)).mp c_8
      refine a_aload_n (pc := 13) dX3_applySeed_13 rfl rfl ?_
      refine a_getr (pc := 14) fl_X3_19 (by assumption) (by decide) (by rfl) dX3_applySeed_14 ?_
      refine a_iload_n (pc := 17) dX3_applySeed_17 rfl rfl ?_
      refine a_puti (pc := 18) fp_X3_128 (by assumption) (by decide) (by rfl) dX3_applySeed_18 ?_
      refine a_iconst (pc := 21) (v := 1) dX3_applySeed_21 (by decide) ?_
      refine a_zret (pc := 22) rfl (by rfl) dX3_applySeed_22 ?_
      exact ⟨rfl, rfl⟩
    · have n_8 : 9999 < a := (nI_ltI (a := 9999) (b := a) (by omega) (by omega)).mp (Int32.not_le.mp c_8)
      omega

set_option maxHeartbeats 4000000 in
set_option maxRecDepth 100000 in
theorem c_X3_numbersBehind110 {μ : Mem} : Con shC mX3_numbersBehind [.ref 104, .int 110] μ (fun r u => r = 1 ∧ μ = u) := by
  refine Con.ofAW (al0 := [some (.ref 104), some (.int 110)]) (by decide) rfl (Nat.le_of_ble_eq_true rfl) rfl ?_
  refine a_iload_n (pc := 0) dX3_numbersBehind_0 rfl rfl ?_
  refine a_tableIn (pc := 1) (off := 91) (tgt := 92) dX3_numbersBehind_1 (by decide) (by decide) (by decide) (by decide) ?_
  refine a_iconst (pc := 92) (v := 1) dX3_numbersBehind_92 (by decide) ?_
  refine a_iret (pc := 93) rfl dX3_numbersBehind_93 ?_
  exact ⟨rfl, rfl⟩

set_option maxHeartbeats 4000000 in
set_option maxRecDepth 100000 in
theorem c_X3_numbersBehind122 {μ : Mem} : Con shC mX3_numbersBehind [.ref 104, .int 122] μ (fun r u => r = 1 ∧ μ = u) := by
  refine Con.ofAW (al0 := [some (.ref 104), some (.int 122)]) (by decide) rfl (Nat.le_of_ble_eq_true rfl) rfl ?_
  refine a_iload_n (pc := 0) dX3_numbersBehind_0 rfl rfl ?_
  refine a_tableIn (pc := 1) (off := 91) (tgt := 92) dX3_numbersBehind_1 (by decide) (by decide) (by decide) (by decide) ?_
  refine a_iconst (pc := 92) (v := 1) dX3_numbersBehind_92 (by decide) ?_
  refine a_iret (pc := 93) rfl dX3_numbersBehind_93 ?_
  exact ⟨rfl, rfl⟩

set_option maxHeartbeats 4000000 in
set_option maxRecDepth 100000 in
theorem c_X3_numbersBehind104 {μ : Mem} : Con shC mX3_numbersBehind [.ref 104, .int 104] μ (fun r u => r = 2 ∧ μ = u) := by
  refine Con.ofAW (al0 := [some (.ref 104), some (.int 104)]) (by decide) rfl (Nat.le_of_ble_eq_true rfl) rfl ?_
  refine a_iload_n (pc := 0) dX3_numbersBehind_0 rfl rfl ?_
  refine a_tableIn (pc := 1) (off := 93) (tgt := 94) dX3_numbersBehind_1 (by decide) (by decide) (by decide) (by decide) ?_
  refine a_iconst (pc := 94) (v := 2) dX3_numbersBehind_94 (by decide) ?_
  refine a_iret (pc := 95) rfl dX3_numbersBehind_95 ?_
  exact ⟨rfl, rfl⟩

set_option maxHeartbeats 4000000 in
set_option maxRecDepth 100000 in
theorem c_X3_numbersBehind119 {μ : Mem} : Con shC mX3_numbersBehind [.ref 104, .int 119] μ (fun r u => r = 2 ∧ μ = u) := by
  refine Con.ofAW (al0 := [some (.ref 104), some (.int 119)]) (by decide) rfl (Nat.le_of_ble_eq_true rfl) rfl ?_
  refine a_iload_n (pc := 0) dX3_numbersBehind_0 rfl rfl ?_
  refine a_tableIn (pc := 1) (off := 93) (tgt := 94) dX3_numbersBehind_1 (by decide) (by decide) (by decide) (by decide) ?_
  refine a_iconst (pc := 94) (v := 2) dX3_numbersBehind_94 (by decide) ?_
  refine a_iret (pc := 95) rfl dX3_numbersBehind_95 ?_
  exact ⟨rfl, rfl⟩

set_option maxHeartbeats 4000000 in
set_option maxRecDepth 100000 in
theorem c_X3_numbersBehind116 {μ : Mem} : Con shC mX3_numbersBehind [.ref 104, .int 116] μ (fun r u => r = 2 ∧ μ = u) := by
  refine Con.ofAW (al0 := [some (.ref 104), some (.int 116)]) (by decide) rfl (Nat.le_of_ble_eq_true rfl) rfl ?_
  refine a_iload_n (pc := 0) dX3_numbersBehind_0 rfl rfl ?_
  refine a_tableIn (pc := 1) (off := 93) (tgt := 94) dX3_numbersBehind_1 (by decide) (by decide) (by decide) (by decide) ?_
  refine a_iconst (pc := 94) (v := 2) dX3_numbersBehind_94 (by decide) ?_
  refine a_iret (pc := 95) rfl dX3_numbersBehind_95 ?_
  exact ⟨rfl, rfl⟩

set_option maxHeartbeats 4000000 in
set_option maxRecDepth 100000 in
theorem c_X3_numbersBehind108 {μ : Mem} : Con shC mX3_numbersBehind [.ref 104, .int 108] μ (fun r u => r = 3 ∧ μ = u) := by
  refine Con.ofAW (al0 := [some (.ref 104), some (.int 108)]) (by decide) rfl (Nat.le_of_ble_eq_true rfl) rfl ?_
  refine a_iload_n (pc := 0) dX3_numbersBehind_0 rfl rfl ?_
  refine a_tableIn (pc := 1) (off := 95) (tgt := 96) dX3_numbersBehind_1 (by decide) (by decide) (by decide) (by decide) ?_
  refine a_iconst (pc := 96) (v := 3) dX3_numbersBehind_96 (by decide) ?_
  refine a_iret (pc := 97) rfl dX3_numbersBehind_97 ?_
  exact ⟨rfl, rfl⟩

set_option maxHeartbeats 4000000 in
set_option maxRecDepth 100000 in
theorem c_X3_numbersBehind0 {μ : Mem} {c : Nat} (hc : c < 127) (hx : c ≠ 104 ∧ c ≠ 108 ∧ c ≠ 110 ∧ c ≠ 116 ∧ c ≠ 119 ∧ c ≠ 122) : Con shC mX3_numbersBehind [.ref 104, .int (nI c)] μ (fun r u => r = 0 ∧ μ = u) := by
  refine Con.ofAW (al0 := [some (.ref 104), some (.int (nI c))]) (by decide) rfl (Nat.le_of_ble_eq_true rfl) rfl ?_
  refine a_iload_n (pc := 0) dX3_numbersBehind_0 rfl rfl ?_
  have k : AW shC mX3_numbersBehind 98 [some (.ref 104), some (.int (nI c))] [] μ (fun r u => r = 0 ∧ μ = u) := by
    refine a_iconst (pc := 98) (v := 0) dX3_numbersBehind_98 (by decide) ?_
    refine a_iret (pc := 99) rfl dX3_numbersBehind_99 ?_
    exact ⟨rfl, rfl⟩
  have hin : ∀ c, c < 127 → (c ≠ 104 ∧ c ≠ 108 ∧ c ≠ 110 ∧ c ≠ 116 ∧ c ≠ 119 ∧ c ≠ 122) → ((nI c).toInt < 104 ∨ 122 < (nI c).toInt) ∨ (¬ (nI c).toInt < 104 ∧ ¬ 122 < (nI c).toInt ∧ (#[93, 97, 97, 97, 95, 97, 91, 97, 97, 97, 97, 97, 93, 97, 97, 93, 97, 97, 91] : Array Int)[((nI c).toInt - 104).toNat]? = some 97) := by decide +kernel
  rcases hin c hc hx with w | w
  · exact a_tableOut (pc := 1) (tgt := 98) dX3_numbersBehind_1 w (by decide) k
  · exact a_tableIn (pc := 1) (off := 97) (tgt := 98) dX3_numbersBehind_1 w.1 w.2.1 w.2.2 (by decide) k

set_option maxHeartbeats 4000000 in
set_option maxRecDepth 100000 in
theorem c_X3_applyItem104 {μ : Mem} {N : Nat} (h0 : μ 53 0 = nI N) (hN : N ≤ 6) {a b : Nat} {z : Int32} (ha : a ≤ 9999) (hb : b ≤ 9999) : Con shC mX3_applyItem [.ref 104, .int 104, .int (nI a), .int (nI b), .int z] μ (fun r u => (r = 1 ∧ (a < N ∧ b < N ∧ a ≠ b) ∧ u = jonF μ 53 a b) ∨ (r = 0 ∧ ¬ (a < N ∧ b < N ∧ a ≠ b) ∧ u = μ)) := by
  have r0 : shC[104]? = some (3, 5, [some 1, some 53, some 105, none, none]) := rfl
  have hn := net_53
  obtain ⟨hn0, hn1, hn2, hnS⟩ := id hn
  refine Con.ofAW (al0 := [some (.ref 104), some (.int 104), some (.int (nI a)), some (.int (nI b)), some (.int z)]) (by decide) rfl (Nat.le_of_ble_eq_true rfl) rfl ?_
  refine a_iload_n (pc := 0) dX3_applyItem_0 rfl rfl ?_
  refine a_lookup (pc := 1) (off := 43) (tgt := 44) dX3_applyItem_1 (by decide) (by decide) (by decide) ?_
  refine a_aload_n (pc := 44) dX3_applyItem_44 rfl rfl ?_
  refine a_iload_n (pc := 45) dX3_applyItem_45 rfl rfl ?_
  refine a_iload_n (pc := 46) dX3_applyItem_46 rfl rfl ?_
  refine a_callI2 (pc := 47) ck_X3_70 ⟨(Nat.le_of_ble_eq_true rfl), (Nat.le_of_ble_eq_true rfl)⟩ (by assumption) (by decide) (Nat.le_of_ble_eq_true rfl) dX3_applyItem_47 rfl (c_X3_applyHear h0 hN ha hb) ?_
  rintro r u hr
  refine a_zret (pc := 50) rfl ((bool_nar (by rcases hr with w | w; exact Or.inr w.1; exact Or.inl w.1)).1) dX3_applyItem_50 ?_
  exact hr

set_option maxHeartbeats 4000000 in
set_option maxRecDepth 100000 in
theorem c_X3_applyItem108 {μ : Mem} {N : Nat} (h0 : μ 53 0 = nI N) (hN : N ≤ 6) {a b c : Nat} (ha : a ≤ 9999) (hb : b ≤ 9999) (hc : c ≤ 9999) {sz : Nat → Nat} (hs : ∀ i, i < 6 → μ (stA 53 i + 1) 0 = nI (sz i) ∧ sz i ≤ 6) : Con shC mX3_applyItem [.ref 104, .int 108, .int (nI a), .int (nI b), .int (nI c)] μ (fun r u => (r = 1 ∧ (a < N ∧ b < N ∧ a ≠ b ∧ 1 ≤ c ∧ c ≤ 9 ∧ bitF (μ (stA 53 a) 0) (nI b) ∧ sz a < 6) ∧ u = addF μ (stA 53 a + 1) (sz a) (nI b) (nI c)) ∨ (r = 0 ∧ ¬ (a < N ∧ b < N ∧ a ≠ b ∧ 1 ≤ c ∧ c ≤ 9 ∧ bitF (μ (stA 53 a) 0) (nI b) ∧ sz a < 6) ∧ u = μ)) := by
  have r0 : shC[104]? = some (3, 5, [some 1, some 53, some 105, none, none]) := rfl
  have hn := net_53
  obtain ⟨hn0, hn1, hn2, hnS⟩ := id hn
  refine Con.ofAW (al0 := [some (.ref 104), some (.int 108), some (.int (nI a)), some (.int (nI b)), some (.int (nI c))]) (by decide) rfl (Nat.le_of_ble_eq_true rfl) rfl ?_
  refine a_iload_n (pc := 0) dX3_applyItem_0 rfl rfl ?_
  refine a_lookup (pc := 1) (off := 50) (tgt := 51) dX3_applyItem_1 (by decide) (by decide) (by decide) ?_
  refine a_aload_n (pc := 51) dX3_applyItem_51 rfl rfl ?_
  refine a_iload_n (pc := 52) dX3_applyItem_52 rfl rfl ?_
  refine a_iload_n (pc := 53) dX3_applyItem_53 rfl rfl ?_
  refine a_iload (pc := 54) dX3_applyItem_54 rfl ?_
  refine a_callI3 (pc := 56) ck_X3_74 ⟨(Nat.le_of_ble_eq_true rfl), (Nat.le_of_ble_eq_true rfl)⟩ (by assumption) (by decide) (Nat.le_of_ble_eq_true rfl) dX3_applyItem_56 rfl (c_X3_applyLetter h0 hN ha hb hc hs) ?_
  rintro r u hr
  refine a_zret (pc := 59) rfl ((bool_nar (by rcases hr with w | w; exact Or.inr w.1; exact Or.inl w.1)).1) dX3_applyItem_59 ?_
  exact hr

set_option maxHeartbeats 4000000 in
set_option maxRecDepth 100000 in
theorem c_X3_applyItem119 {μ : Mem} {a b : Nat} {z : Int32} (ha : a ≤ 9999) (hb : b ≤ 9999) : Con shC mX3_applyItem [.ref 104, .int 119, .int (nI a), .int (nI b), .int z] μ (fun r u => (r = 1 ∧ (1 ≤ a ∧ a ≤ 16 ∧ a ≤ b ∧ b ≤ 64) ∧ u = up2 (up2 μ 53 1 (nI a)) 53 2 (nI b)) ∨ (r = 0 ∧ ¬ (1 ≤ a ∧ a ≤ 16 ∧ a ≤ b ∧ b ≤ 64) ∧ u = μ)) := by
  have r0 : shC[104]? = some (3, 5, [some 1, some 53, some 105, none, none]) := rfl
  have hn := net_53
  obtain ⟨hn0, hn1, hn2, hnS⟩ := id hn
  refine Con.ofAW (al0 := [some (.ref 104), some (.int 119), some (.int (nI a)), some (.int (nI b)), some (.int z)]) (by decide) rfl (Nat.le_of_ble_eq_true rfl) rfl ?_
  refine a_iload_n (pc := 0) dX3_applyItem_0 rfl rfl ?_
  refine a_lookup (pc := 1) (off := 59) (tgt := 60) dX3_applyItem_1 (by decide) (by decide) (by decide) ?_
  refine a_aload_n (pc := 60) dX3_applyItem_60 rfl rfl ?_
  refine a_iload_n (pc := 61) dX3_applyItem_61 rfl rfl ?_
  refine a_iload_n (pc := 62) dX3_applyItem_62 rfl rfl ?_
  refine a_callI2 (pc := 63) ck_X3_78 ⟨(Nat.le_of_ble_eq_true rfl), (Nat.le_of_ble_eq_true rfl)⟩ (by assumption) (by decide) (Nat.le_of_ble_eq_true rfl) dX3_applyItem_63 rfl (c_X3_applyWindows ha hb) ?_
  rintro r u hr
  refine a_zret (pc := 66) rfl ((bool_nar (by rcases hr with w | w; exact Or.inr w.1; exact Or.inl w.1)).1) dX3_applyItem_66 ?_
  exact hr

set_option maxHeartbeats 4000000 in
set_option maxRecDepth 100000 in
theorem c_X3_applyItem116 {μ : Mem} {a b : Nat} {z : Int32} (ha : a ≤ 9999) (hb : b ≤ 9999) : Con shC mX3_applyItem [.ref 104, .int 116, .int (nI a), .int (nI b), .int z] μ (fun r u => (r = 1 ∧ (1 ≤ a ∧ a ≤ 10 ∧ 1 ≤ b ∧ b ≤ 7) ∧ u = up2 (up2 μ 53 3 (nI a)) 53 4 (nI b)) ∨ (r = 0 ∧ ¬ (1 ≤ a ∧ a ≤ 10 ∧ 1 ≤ b ∧ b ≤ 7) ∧ u = μ)) := by
  have r0 : shC[104]? = some (3, 5, [some 1, some 53, some 105, none, none]) := rfl
  have hn := net_53
  obtain ⟨hn0, hn1, hn2, hnS⟩ := id hn
  refine Con.ofAW (al0 := [some (.ref 104), some (.int 116), some (.int (nI a)), some (.int (nI b)), some (.int z)]) (by decide) rfl (Nat.le_of_ble_eq_true rfl) rfl ?_
  refine a_iload_n (pc := 0) dX3_applyItem_0 rfl rfl ?_
  refine a_lookup (pc := 1) (off := 66) (tgt := 67) dX3_applyItem_1 (by decide) (by decide) (by decide) ?_
  refine a_aload_n (pc := 67) dX3_applyItem_67 rfl rfl ?_
  refine a_iload_n (pc := 68) dX3_applyItem_68 rfl rfl ?_
  refine a_iload_n (pc := 69) dX3_applyItem_69 rfl rfl ?_
  refine a_callI2 (pc := 70) ck_X3_81 ⟨(Nat.le_of_ble_eq_true rfl), (Nat.le_of_ble_eq_true rfl)⟩ (by assumption) (by decide) (Nat.le_of_ble_eq_true rfl) dX3_applyItem_70 rfl (c_X3_applyTries ha hb) ?_
  rintro r u hr
  refine a_zret (pc := 73) rfl ((bool_nar (by rcases hr with w | w; exact Or.inr w.1; exact Or.inl w.1)).1) dX3_applyItem_73 ?_
  exact hr

set_option maxHeartbeats 4000000 in
set_option maxRecDepth 100000 in
theorem c_X3_applyItem122 {μ : Mem} {a : Nat} {y z : Int32} (ha : a ≤ 9999) : Con shC mX3_applyItem [.ref 104, .int 122, .int (nI a), .int y, .int z] μ (fun r u => r = 1 ∧ u = up2 μ 53 5 (nI a)) := by
  have r0 : shC[104]? = some (3, 5, [some 1, some 53, some 105, none, none]) := rfl
  have hn := net_53
  obtain ⟨hn0, hn1, hn2, hnS⟩ := id hn
  refine Con.ofAW (al0 := [some (.ref 104), some (.int 122), some (.int (nI a)), some (.int y), some (.int z)]) (by decide) rfl (Nat.le_of_ble_eq_true rfl) rfl ?_
  refine a_iload_n (pc := 0) dX3_applyItem_0 rfl rfl ?_
  refine a_lookup (pc := 1) (off := 73) (tgt := 74) dX3_applyItem_1 (by decide) (by decide) (by decide) ?_
  refine a_aload_n (pc := 74) dX3_applyItem_74 rfl rfl ?_
  refine a_iload_n (pc := 75) dX3_applyItem_75 rfl rfl ?_
  refine a_callI1 (pc := 76) ck_X3_84 ⟨(Nat.le_of_ble_eq_true rfl), (Nat.le_of_ble_eq_true rfl)⟩ (by assumption) (by decide) (Nat.le_of_ble_eq_true rfl) dX3_applyItem_76 rfl (c_X3_applySeed ha) ?_
  rintro r u ⟨rfl, rfl⟩
  refine a_zret (pc := 79) rfl (by rfl) dX3_applyItem_79 ?_
  exact ⟨rfl, rfl⟩

