/-! the calls that only look: station, letterOf, overheard, pair, draw -/
theorem out_of {w K : Int32} {n : Int} (hK : K.toInt = n) (h : ¬ (¬ w < 0 ∧ ¬ K < w)) : w.toInt < 0 ∨ n < w.toInt := by
  rw [← hK]
  by_cases h0 : w < 0
  · exact Or.inl (by rw [Int32.lt_iff_toInt_lt] at h0; exact h0)
  · refine Or.inr (Classical.byContradiction fun q => h ⟨h0, fun r => q ?_⟩)
    rw [Int32.lt_iff_toInt_lt] at r; exact r
theorem in_of {w K : Int32} {n : Nat} (hK : K.toInt = n) (h : ¬ w < 0 ∧ ¬ K < w) : ∃ j, j ≤ n ∧ w = nI j :=
  nI_of2 hK h.1 (Int32.not_lt.mp h.2)
theorem GR.ref {μ ν v : Mem} {D : Nat} (h : ∀ x, x < 4 → v x = ν x) (hG : GR μ ν D) : GR μ v D := by
  obtain ⟨N, t, hN, ht, hP, ⟨l, l1, l2, l3, l4⟩, hB⟩ := hG
  have e0 := h 0 (by omega)
  refine ⟨N, t, NB.eq (fun x _ _ => rfl) (fun k _ _ => by rw [e0]) (fun j _ => by rw [h 2 (by omega)]) (Nat.le_refl _) hN, ht, PSr.eq (fun x _ => rfl) rfl rfl (fun k _ _ => by rw [e0]) (by rw [e0]) (h 3 (by omega)) (Nat.le_refl _) hP, ⟨l, l1, l2, by rw [e0]; exact l3, by rw [h 1 (by omega)]; exact l4⟩, hB⟩
set_option maxHeartbeats 4000000 in
set_option maxRecDepth 100000 in
theorem c_X6_stationX {μ : Mem} {N : Nat} {i j k w : Int32} (h0 : μ 2 0 = nI N) (hN : N ≤ 6) (h : ¬ stnP i N) : Con shC mX6_station [.ref 0, .int i, .int w] μ (fun r u => r = -1 ∧ μ = u) := by
  have z0 : shC[0]? = some (6, 8, [some 1, none, some 2, some 53, some 104, some 106, none, none]) := rfl
  have hn := net_2
  obtain ⟨hn0, hn1, hn2, hnS⟩ := id hn
  refine Con.ofAW (al0 := [some (.ref 0), some (.int i), some (.int w), none]) (by decide) rfl (Nat.le_of_ble_eq_true rfl) rfl ?_
  refine a_aload_n (pc := 0) dX6_station_0 rfl rfl ?_
  refine a_iload_n (pc := 1) dX6_station_1 rfl rfl ?_
  refine a_callI1 (pc := 2) ck_X6_129 ⟨(Nat.le_of_ble_eq_true rfl), (Nat.le_of_ble_eq_true rfl)⟩ (by assumption) (by decide) (Nat.le_of_ble_eq_true rfl) dX6_station_2 rfl (c_X6_isStation h0 (by omega)) ?_
  rintro r u ⟨hr, rfl⟩
  refine a_if_ne (pc := 5) (tgt := 10) dX6_station_5 (by decide) (fun c_5 => ?_) (fun c_5 => ?_)
  · exfalso; simp_all
  · refine a_iconst (pc := 8) (v := -1) dX6_station_8 (by decide) ?_
    refine a_iret (pc := 9) rfl dX6_station_9 ?_
    exact ⟨rfl, rfl⟩

set_option maxHeartbeats 4000000 in
set_option maxRecDepth 100000 in
theorem c_X6_stationO {μ : Mem} {i N : Nat} {w : Int32} (h0 : μ 2 0 = nI N) (hN : N ≤ 6) (hiN : i < N) (h : ¬ (¬ w < 0 ∧ ¬ 11 < w)) : Con shC mX6_station [.ref 0, .int (nI i), .int w] μ (fun r u => r = -1 ∧ μ = u) := by
  have z0 : shC[0]? = some (6, 8, [some 1, none, some 2, some 53, some 104, some 106, none, none]) := rfl
  have hn := net_2
  obtain ⟨hn0, hn1, hn2, hnS⟩ := id net_2
  have hi : i < 6 := by omega
  have ws := hnS i hi
  have w0 : shC[(stA 2 i)]? = _ := ws.1
  have w1 : shC[(stA 2 i) + 1]? = some (0, 3, [none, some ((stA 2 i) + 2), some ((stA 2 i) + 3)]) := ws.2.1.1
  have w2 : shC[(stA 2 i) + 2]? = some (100, 6, []) := ws.2.1.2.1
  have w3 : shC[(stA 2 i) + 3]? = some (100, 6, []) := ws.2.1.2.2
  have w4 : shC[(stA 2 i) + 4]? = some (1, 2, [none, some ((stA 2 i) + 5)]) := ws.2.2.1.1
  have w5 : shC[(stA 2 i) + 5]? = some (100, 24, []) := ws.2.2.1.2
  have w6 : shC[(stA 2 i) + 6]? = some (4, 4, [none, none, none, none]) := ws.2.2.2.1
  have w7 : shC[(stA 2 i) + 7]? = some (4, 4, [none, none, none, none]) := ws.2.2.2.2
  refine Con.ofAW (al0 := [some (.ref 0), some (.int (nI i)), some (.int w), none]) (by decide) rfl (Nat.le_of_ble_eq_true rfl) rfl ?_
  refine a_aload_n (pc := 0) dX6_station_0 rfl rfl ?_
  refine a_iload_n (pc := 1) dX6_station_1 rfl rfl ?_
  refine a_callI1 (pc := 2) ck_X6_129 ⟨(Nat.le_of_ble_eq_true rfl), (Nat.le_of_ble_eq_true rfl)⟩ (by assumption) (by decide) (Nat.le_of_ble_eq_true rfl) dX6_station_2 rfl (c_X6_isStation h0 (by omega)) ?_
  rintro r u ⟨hr, rfl⟩
  have hr1 : r = 1 := by
    rcases hr with q | q
    · exact q.1
    · exact absurd ⟨i, hiN, rfl⟩ q.2
  subst hr1
  refine a_if_ne (pc := 5) (tgt := 10) dX6_station_5 (by decide) (fun c_5 => ?_) (fun c_5 => ?_)
  · refine a_aload_n (pc := 10) dX6_station_10 rfl rfl ?_
    refine a_getr (pc := 11) fl_X6_16 (by assumption) (by decide) (by rfl) dX6_station_11 ?_
    refine a_getr (pc := 14) fl_X6_70 (by assumption) (by decide) (by rfl) dX6_station_14 ?_
    refine a_iload_n (pc := 17) dX6_station_17 rfl rfl ?_
    refine a_aald2 (pc := 18)  (by assumption) rfl (by omega) (by decide) (all_at (by omega)) dX6_station_18 ?_
    refine a_astore_n (pc := 19) (al' := [some (.ref _), some (.int _), some (.int _), some (.ref _)]) dX6_station_19 rfl (by decide) rfl rfl ?_
    refine a_iload_n (pc := 20) dX6_station_20 rfl rfl ?_
    refine a_tableOut (pc := 21) (tgt := 174) dX6_station_21 (out_of (K := 11) rfl h) (by decide) ?_
    refine a_iconst (pc := 174) (v := -1) dX6_station_174 (by decide) ?_
    refine a_iret (pc := 175) rfl dX6_station_175 ?_
    exact ⟨rfl, rfl⟩
  · exact absurd c_5 (by decide)

set_option maxHeartbeats 4000000 in
set_option maxRecDepth 100000 in
theorem c_X7_stationX {ν : Mem} {N : Nat} {i j k w : Int32} (h0 : ν 0 2 = nI N) (hN : N ≤ 6) (hN1 : 1 ≤ N) (h : ¬ (stnP i N ∧ ¬ w < 0 ∧ ¬ 11 < w)) : Con shM mX7_station [.ref 0, .int i, .int w] ν (fun r u => r = -1 ∧ ν = u) := by
  have m0 : shM[0]? = some (7, 18, [none, some 1, none, none, none, none, none, some 2, some 3, none, none, some 4, none, none, some 5, some 6, some 7, some 8]) := rfl
  have m1 : shM[1]? = some (100, 200, []) := rfl
  have m2 : shM[2]? = some (100, 1320, []) := rfl
  have m3 : shM[3]? = some (100, 1760, []) := rfl
  have m4 : shM[4]? = some (100, 4, []) := rfl
  have m5 : shM[5]? = some (100, 6, []) := rfl
  have m6 : shM[6]? = some (100, 6, []) := rfl
  have m7 : shM[7]? = some (100, 6, []) := rfl
  have m8 : shM[8]? = some (100, 6, []) := rfl
  refine Con.ofAW (al0 := [some (.ref 0), some (.int i), some (.int w), none]) (by decide) rfl (Nat.le_of_ble_eq_true rfl) rfl ?_
  refine a_aload_n (pc := 0) dX7_station_0 rfl rfl ?_
  refine a_iload_n (pc := 1) dX7_station_1 rfl rfl ?_
  refine a_callI1 (pc := 2) ck_X7_175 ⟨(Nat.le_of_ble_eq_true rfl), (Nat.le_of_ble_eq_true rfl)⟩ (by assumption) (by decide) (Nat.le_of_ble_eq_true rfl) dX7_station_2 rfl (c_X7_isStation h0 (by omega) hN1) ?_
  rintro r u ⟨hr, rfl⟩
  refine a_if_eq (pc := 5) (tgt := 18) dX7_station_5 (by decide) (fun c_5 => ?_) (fun c_5 => ?_)
  · refine a_iconst (pc := 18) (v := -1) dX7_station_18 (by decide) ?_
    refine a_iret (pc := 19) rfl dX7_station_19 ?_
    exact ⟨rfl, rfl⟩
  · refine a_iload_n (pc := 8) dX7_station_8 rfl rfl ?_
    refine a_iconst (pc := 9) (v := 0) dX7_station_9 (by decide) ?_
    refine a_bipush (pc := 10) (v := 11) dX7_station_10 (by decide) ?_
    refine a_callS3 (pc := 12) cs_X7_94 ⟨(Nat.le_of_ble_eq_true rfl), (Nat.le_of_ble_eq_true rfl)⟩ (Nat.le_of_ble_eq_true rfl) dX7_station_12 rfl c_X7_isIn ?_
    rintro r2 u ⟨hr2, rfl⟩
    refine a_if_ne (pc := 15) (tgt := 20) dX7_station_15 (by decide) (fun c_15 => ?_) (fun c_15 => ?_)
    · exfalso; simp_all [-Int32.not_lt, -Int32.not_le]
    · refine a_iconst (pc := 18) (v := -1) dX7_station_18 (by decide) ?_
      refine a_iret (pc := 19) rfl dX7_station_19 ?_
      exact ⟨rfl, rfl⟩

set_option maxHeartbeats 4000000 in
set_option maxRecDepth 100000 in
theorem c_X7_station9 {ν : Mem} {i N : Nat} (h0 : ν 0 2 = nI N) (hN : N ≤ 6) (hiN : i < N) : Con shM mX7_station [.ref 0, .int (nI i), .int 9] ν (fun r u => wtP (ν 2) 0 i (ν 2 426 + 1) (ν 0 5) r ∧ ∀ x, x < 5 → u x = ν x) := by
  have m0 : shM[0]? = some (7, 18, [none, some 1, none, none, none, none, none, some 2, some 3, none, none, some 4, none, none, some 5, some 6, some 7, some 8]) := rfl
  have m1 : shM[1]? = some (100, 200, []) := rfl
  have m2 : shM[2]? = some (100, 1320, []) := rfl
  have m3 : shM[3]? = some (100, 1760, []) := rfl
  have m4 : shM[4]? = some (100, 4, []) := rfl
  have m5 : shM[5]? = some (100, 6, []) := rfl
  have m6 : shM[6]? = some (100, 6, []) := rfl
  have m7 : shM[7]? = some (100, 6, []) := rfl
  have m8 : shM[8]? = some (100, 6, []) := rfl
  refine Con.ofAW (al0 := [some (.ref 0), some (.int (nI i)), some (.int 9), none]) (by decide) rfl (Nat.le_of_ble_eq_true rfl) rfl ?_
  refine a_aload_n (pc := 0) dX7_station_0 rfl rfl ?_
  refine a_iload_n (pc := 1) dX7_station_1 rfl rfl ?_
  refine a_callI1 (pc := 2) ck_X7_175 ⟨(Nat.le_of_ble_eq_true rfl), (Nat.le_of_ble_eq_true rfl)⟩ (by assumption) (by decide) (Nat.le_of_ble_eq_true rfl) dX7_station_2 rfl (c_X7_isStation h0 (by omega) (by omega)) ?_
  rintro r u ⟨hr, rfl⟩
  have hr1 : r = 1 := by
    rcases hr with q | q
    · exact q.1
    · exact absurd ⟨i, hiN, rfl⟩ q.2
  subst hr1
  refine a_if_eq (pc := 5) (tgt := 18) dX7_station_5 (by decide) (fun c_5 => ?_) (fun c_5 => ?_)
  · exact absurd c_5 (by decide)
  · refine a_iload_n (pc := 8) dX7_station_8 rfl rfl ?_
    refine a_iconst (pc := 9) (v := 0) dX7_station_9 (by decide) ?_
    refine a_bipush (pc := 10) (v := 11) dX7_station_10 (by decide) ?_
    refine a_callS3 (pc := 12) cs_X7_94 ⟨(Nat.le_of_ble_eq_true rfl), (Nat.le_of_ble_eq_true rfl)⟩ (Nat.le_of_ble_eq_true rfl) dX7_station_12 rfl c_X7_isIn ?_
    rintro r u ⟨hr, rfl⟩
    have hr1 : r = 1 := by
      rcases hr with q | q
      · exact q.1
      · exact absurd q.2 (by decide)
    subst hr1
    refine a_if_ne (pc := 15) (tgt := 20) dX7_station_15 (by decide) (fun c_15 => ?_) (fun c_15 => ?_)
    · refine a_iconst (pc := 20) (v := 0) dX7_station_20 (by decide) ?_
      refine a_iload_n (pc := 21) dX7_station_21 rfl rfl ?_
      refine a_callS2 (pc := 22) cs_X7_52 ⟨(Nat.le_of_ble_eq_true rfl), (Nat.le_of_ble_eq_true rfl)⟩ (Nat.le_of_ble_eq_true rfl) dX7_station_22 rfl (c_X7_at (r := 0)) ?_
      rintro r_ u ⟨rfl, rfl⟩
      refine a_istore_n (pc := 25) (al' := [some (.ref _), some (.int _), some (.int _), some (.int _)]) dX7_station_25 rfl (by decide) rfl rfl ?_
      refine a_iload_n (pc := 26) dX7_station_26 rfl rfl ?_
      refine a_tableIn (pc := 27) (off := 158) (tgt := 185) dX7_station_27 (by decide) (by decide) (by decide) (by decide) ?_
      refine a_aload_n (pc := 185) dX7_station_185 rfl rfl ?_
      refine a_iconst (pc := 186) (v := 0) dX7_station_186 (by decide) ?_
      refine a_iload_n (pc := 187) dX7_station_187 rfl rfl ?_
      refine a_aload_n (pc := 188) dX7_station_188 rfl rfl ?_
      refine a_getr (pc := 189) fl_X7_13 (by assumption) (by decide) (by rfl) dX7_station_189 ?_
      refine a_sipush (pc := 192) (v := 426) dX7_station_192 (by decide) ?_
      refine a_iald (pc := 195) (j := 426) (by assumption) rfl (by omega) (by decide) dX7_station_195 ?_
      refine a_iconst (pc := 196) (v := 1) dX7_station_196 (by decide) ?_
      refine a_iadd (pc := 197) dX7_station_197 ?_
      refine a_callV3 (pc := 198) ck_X7_166 ⟨(Nat.le_of_ble_eq_true rfl), (Nat.le_of_ble_eq_true rfl)⟩ (by assumption) (by decide) (Nat.le_of_ble_eq_true rfl) dX7_station_198 rfl (c_X7_says (r := 0) (by omega) (by omega)) ?_
      rintro u ⟨hu, hw⟩
      refine a_aload_n (pc := 201) dX7_station_201 rfl rfl ?_
      refine a_getr (pc := 202) fl_X7_22 (by assumption) (by decide) (by rfl) dX7_station_202 ?_
      refine a_iload_n (pc := 205) dX7_station_205 rfl rfl ?_
      refine a_iald (pc := 206)  (by assumption) rfl (by omega) (by decide) dX7_station_206 ?_
      refine a_iret (pc := 207) rfl dX7_station_207 ?_
      exact ⟨hw, fun x hx => by rw [hu]; unfold sayF; rw [upA_ne (by omega), upA_ne (by omega), upA_ne (by omega), upA_ne (by omega)]⟩
    · exact absurd c_15 (by decide)

set_option maxHeartbeats 4000000 in
set_option maxRecDepth 100000 in
theorem c_X6_letterOfX {μ : Mem} {N : Nat} {i j k w : Int32} (h0 : μ 2 0 = nI N) (hN : N ≤ 6) (h : ¬ (stnP i N ∧ ¬ k < 0 ∧ ¬ w < 0 ∧ ¬ 3 < w)) : Con shC mX6_letterOf [.ref 0, .int i, .int k, .int w] μ (fun r u => r = -1 ∧ μ = u) := by
  have z0 : shC[0]? = some (6, 8, [some 1, none, some 2, some 53, some 104, some 106, none, none]) := rfl
  have hn := net_2
  obtain ⟨hn0, hn1, hn2, hnS⟩ := id hn
  refine Con.ofAW (al0 := [some (.ref 0), some (.int i), some (.int k), some (.int w), none]) (by decide) rfl (Nat.le_of_ble_eq_true rfl) rfl ?_
  refine a_aload_n (pc := 0) dX6_letterOf_0 rfl rfl ?_
  refine a_iload_n (pc := 1) dX6_letterOf_1 rfl rfl ?_
  refine a_callI1 (pc := 2) ck_X6_129 ⟨(Nat.le_of_ble_eq_true rfl), (Nat.le_of_ble_eq_true rfl)⟩ (by assumption) (by decide) (Nat.le_of_ble_eq_true rfl) dX6_letterOf_2 rfl (c_X6_isStation h0 (by omega)) ?_
  rintro r u ⟨hr, rfl⟩
  refine a_if_eq (pc := 5) (tgt := 21) dX6_letterOf_5 (by decide) (fun c_5 => ?_) (fun c_5 => ?_)
  · refine a_iconst (pc := 21) (v := -1) dX6_letterOf_21 (by decide) ?_
    refine a_iret (pc := 22) rfl dX6_letterOf_22 ?_
    exact ⟨rfl, rfl⟩
  · refine a_iload_n (pc := 8) dX6_letterOf_8 rfl rfl ?_
    refine a_if_lt (pc := 9) (tgt := 21) dX6_letterOf_9 (by decide) (fun c_9 => ?_) (fun c_9 => ?_)
    · refine a_iconst (pc := 21) (v := -1) dX6_letterOf_21 (by decide) ?_
      refine a_iret (pc := 22) rfl dX6_letterOf_22 ?_
      exact ⟨rfl, rfl⟩
    · refine a_iload_n (pc := 12) dX6_letterOf_12 rfl rfl ?_
      refine a_if_lt (pc := 13) (tgt := 21) dX6_letterOf_13 (by decide) (fun c_13 => ?_) (fun c_13 => ?_)
      · refine a_iconst (pc := 21) (v := -1) dX6_letterOf_21 (by decide) ?_
        refine a_iret (pc := 22) rfl dX6_letterOf_22 ?_
        exact ⟨rfl, rfl⟩
      · refine a_iload_n (pc := 16) dX6_letterOf_16 rfl rfl ?_
        refine a_iconst (pc := 17) (v := 3) dX6_letterOf_17 (by decide) ?_
        refine a_icmp_le (pc := 18) (tgt := 23) dX6_letterOf_18 (by decide) (fun c_18 => ?_) (fun c_18 => ?_)
        · exfalso
          rw [← Int32.not_lt] at c_18
          simp_all [-Int32.not_lt, -Int32.not_le]
        · refine a_iconst (pc := 21) (v := -1) dX6_letterOf_21 (by decide) ?_
          refine a_iret (pc := 22) rfl dX6_letterOf_22 ?_
          exact ⟨rfl, rfl⟩

set_option maxHeartbeats 4000000 in
set_option maxRecDepth 100000 in
theorem c_X7_letterOfX {ν : Mem} {N : Nat} {i j k w : Int32} (h0 : ν 0 2 = nI N) (hN : N ≤ 6) (hN1 : 1 ≤ N) (h : ¬ (stnP i N ∧ ¬ k < 0 ∧ ¬ w < 0 ∧ ¬ 3 < w)) : Con shM mX7_letterOf [.ref 0, .int i, .int k, .int w] ν (fun r u => r = -1 ∧ ν = u) := by
  have m0 : shM[0]? = some (7, 18, [none, some 1, none, none, none, none, none, some 2, some 3, none, none, some 4, none, none, some 5, some 6, some 7, some 8]) := rfl
  have m1 : shM[1]? = some (100, 200, []) := rfl
  have m2 : shM[2]? = some (100, 1320, []) := rfl
  have m3 : shM[3]? = some (100, 1760, []) := rfl
  have m4 : shM[4]? = some (100, 4, []) := rfl
  have m5 : shM[5]? = some (100, 6, []) := rfl
  have m6 : shM[6]? = some (100, 6, []) := rfl
  have m7 : shM[7]? = some (100, 6, []) := rfl
  have m8 : shM[8]? = some (100, 6, []) := rfl
  refine Con.ofAW (al0 := [some (.ref 0), some (.int i), some (.int k), some (.int w), none, none]) (by decide) rfl (Nat.le_of_ble_eq_true rfl) rfl ?_
  refine a_aload_n (pc := 0) dX7_letterOf_0 rfl rfl ?_
  refine a_iload_n (pc := 1) dX7_letterOf_1 rfl rfl ?_
  refine a_callI1 (pc := 2) ck_X7_175 ⟨(Nat.le_of_ble_eq_true rfl), (Nat.le_of_ble_eq_true rfl)⟩ (by assumption) (by decide) (Nat.le_of_ble_eq_true rfl) dX7_letterOf_2 rfl (c_X7_isStation h0 (by omega) hN1) ?_
  rintro r u ⟨hr, rfl⟩
  refine a_if_eq (pc := 5) (tgt := 21) dX7_letterOf_5 (by decide) (fun c_5 => ?_) (fun c_5 => ?_)
  · refine a_iconst (pc := 21) (v := -1) dX7_letterOf_21 (by decide) ?_
    refine a_iret (pc := 22) rfl dX7_letterOf_22 ?_
    exact ⟨rfl, rfl⟩
  · refine a_iload_n (pc := 8) dX7_letterOf_8 rfl rfl ?_
    refine a_if_lt (pc := 9) (tgt := 21) dX7_letterOf_9 (by decide) (fun c_9 => ?_) (fun c_9 => ?_)
    · refine a_iconst (pc := 21) (v := -1) dX7_letterOf_21 (by decide) ?_
      refine a_iret (pc := 22) rfl dX7_letterOf_22 ?_
      exact ⟨rfl, rfl⟩
    · refine a_iload_n (pc := 12) dX7_letterOf_12 rfl rfl ?_
      refine a_iconst (pc := 13) (v := 0) dX7_letterOf_13 (by decide) ?_
      refine a_iconst (pc := 14) (v := 3) dX7_letterOf_14 (by decide) ?_
      refine a_callS3 (pc := 15) cs_X7_94 ⟨(Nat.le_of_ble_eq_true rfl), (Nat.le_of_ble_eq_true rfl)⟩ (Nat.le_of_ble_eq_true rfl) dX7_letterOf_15 rfl c_X7_isIn ?_
      rintro r2 u ⟨hr2, rfl⟩
      refine a_if_ne (pc := 18) (tgt := 23) dX7_letterOf_18 (by decide) (fun c_18 => ?_) (fun c_18 => ?_)
      · exfalso; simp_all [-Int32.not_lt, -Int32.not_le]
      · refine a_iconst (pc := 21) (v := -1) dX7_letterOf_21 (by decide) ?_
        refine a_iret (pc := 22) rfl dX7_letterOf_22 ?_
        exact ⟨rfl, rfl⟩

set_option maxHeartbeats 4000000 in
set_option maxRecDepth 100000 in
theorem c_X6_overheardX {μ : Mem} {N : Nat} {i j k w : Int32} (h0 : μ 2 0 = nI N) (hN : N ≤ 6) (h : ¬ (stnP i N ∧ ¬ k < 0 ∧ ¬ w < 0 ∧ ¬ 3 < w)) : Con shC mX6_overheard [.ref 0, .int i, .int k, .int w] μ (fun r u => r = -1 ∧ μ = u) := by
  have z0 : shC[0]? = some (6, 8, [some 1, none, some 2, some 53, some 104, some 106, none, none]) := rfl
  have hn := net_2
  obtain ⟨hn0, hn1, hn2, hnS⟩ := id hn
  refine Con.ofAW (al0 := [some (.ref 0), some (.int i), some (.int k), some (.int w)]) (by decide) rfl (Nat.le_of_ble_eq_true rfl) rfl ?_
  refine a_aload_n (pc := 0) dX6_overheard_0 rfl rfl ?_
  refine a_iload_n (pc := 1) dX6_overheard_1 rfl rfl ?_
  refine a_callI1 (pc := 2) ck_X6_129 ⟨(Nat.le_of_ble_eq_true rfl), (Nat.le_of_ble_eq_true rfl)⟩ (by assumption) (by decide) (Nat.le_of_ble_eq_true rfl) dX6_overheard_2 rfl (c_X6_isStation h0 (by omega)) ?_
  rintro r u ⟨hr, rfl⟩
  refine a_if_eq (pc := 5) (tgt := 21) dX6_overheard_5 (by decide) (fun c_5 => ?_) (fun c_5 => ?_)
  · refine a_iconst (pc := 21) (v := -1) dX6_overheard_21 (by decide) ?_
    refine a_iret (pc := 22) rfl dX6_overheard_22 ?_
    exact ⟨rfl, rfl⟩
  · refine a_iload_n (pc := 8) dX6_overheard_8 rfl rfl ?_
    refine a_if_lt (pc := 9) (tgt := 21) dX6_overheard_9 (by decide) (fun c_9 => ?_) (fun c_9 => ?_)
    · refine a_iconst (pc := 21) (v := -1) dX6_overheard_21 (by decide) ?_
      refine a_iret (pc := 22) rfl dX6_overheard_22 ?_
      exact ⟨rfl, rfl⟩
    · refine a_iload_n (pc := 12) dX6_overheard_12 rfl rfl ?_
      refine a_if_lt (pc := 13) (tgt := 21) dX6_overheard_13 (by decide) (fun c_13 => ?_) (fun c_13 => ?_)
      · refine a_iconst (pc := 21) (v := -1) dX6_overheard_21 (by decide) ?_
        refine a_iret (pc := 22) rfl dX6_overheard_22 ?_
        exact ⟨rfl, rfl⟩
      · refine a_iload_n (pc := 16) dX6_overheard_16 rfl rfl ?_
        refine a_iconst (pc := 17) (v := 3) dX6_overheard_17 (by decide) ?_
        refine a_icmp_le (pc := 18) (tgt := 23) dX6_overheard_18 (by decide) (fun c_18 => ?_) (fun c_18 => ?_)
        · exfalso
          rw [← Int32.not_lt] at c_18
          simp_all [-Int32.not_lt, -Int32.not_le]
        · refine a_iconst (pc := 21) (v := -1) dX6_overheard_21 (by decide) ?_
          refine a_iret (pc := 22) rfl dX6_overheard_22 ?_
          exact ⟨rfl, rfl⟩

set_option maxHeartbeats 4000000 in
set_option maxRecDepth 100000 in
theorem c_X7_overheardX {ν : Mem} {N : Nat} {i j k w : Int32} (h0 : ν 0 2 = nI N) (hN : N ≤ 6) (hN1 : 1 ≤ N) (h : ¬ (stnP i N ∧ ¬ k < 0 ∧ ¬ w < 0 ∧ ¬ 3 < w)) : Con shM mX7_overheard [.ref 0, .int i, .int k, .int w] ν (fun r u => r = -1 ∧ ν = u) := by
  have m0 : shM[0]? = some (7, 18, [none, some 1, none, none, none, none, none, some 2, some 3, none, none, some 4, none, none, some 5, some 6, some 7, some 8]) := rfl
  have m1 : shM[1]? = some (100, 200, []) := rfl
  have m2 : shM[2]? = some (100, 1320, []) := rfl
  have m3 : shM[3]? = some (100, 1760, []) := rfl
  have m4 : shM[4]? = some (100, 4, []) := rfl
  have m5 : shM[5]? = some (100, 6, []) := rfl
  have m6 : shM[6]? = some (100, 6, []) := rfl
  have m7 : shM[7]? = some (100, 6, []) := rfl
  have m8 : shM[8]? = some (100, 6, []) := rfl
  refine Con.ofAW (al0 := [some (.ref 0), some (.int i), some (.int k), some (.int w), none]) (by decide) rfl (Nat.le_of_ble_eq_true rfl) rfl ?_
  refine a_aload_n (pc := 0) dX7_overheard_0 rfl rfl ?_
  refine a_iload_n (pc := 1) dX7_overheard_1 rfl rfl ?_
  refine a_callI1 (pc := 2) ck_X7_175 ⟨(Nat.le_of_ble_eq_true rfl), (Nat.le_of_ble_eq_true rfl)⟩ (by assumption) (by decide) (Nat.le_of_ble_eq_true rfl) dX7_overheard_2 rfl (c_X7_isStation h0 (by omega) hN1) ?_
  rintro r u ⟨hr, rfl⟩
  refine a_if_eq (pc := 5) (tgt := 21) dX7_overheard_5 (by decide) (fun c_5 => ?_) (fun c_5 => ?_)
  · refine a_iconst (pc := 21) (v := -1) dX7_overheard_21 (by decide) ?_
    refine a_iret (pc := 22) rfl dX7_overheard_22 ?_
    exact ⟨rfl, rfl⟩
  · refine a_iload_n (pc := 8) dX7_overheard_8 rfl rfl ?_
    refine a_if_lt (pc := 9) (tgt := 21) dX7_overheard_9 (by decide) (fun c_9 => ?_) (fun c_9 => ?_)
    · refine a_iconst (pc := 21) (v := -1) dX7_overheard_21 (by decide) ?_
      refine a_iret (pc := 22) rfl dX7_overheard_22 ?_
      exact ⟨rfl, rfl⟩
    · refine a_iload_n (pc := 12) dX7_overheard_12 rfl rfl ?_
      refine a_iconst (pc := 13) (v := 0) dX7_overheard_13 (by decide) ?_
      refine a_iconst (pc := 14) (v := 3) dX7_overheard_14 (by decide) ?_
      refine a_callS3 (pc := 15) cs_X7_94 ⟨(Nat.le_of_ble_eq_true rfl), (Nat.le_of_ble_eq_true rfl)⟩ (Nat.le_of_ble_eq_true rfl) dX7_overheard_15 rfl c_X7_isIn ?_
      rintro r2 u ⟨hr2, rfl⟩
      refine a_if_ne (pc := 18) (tgt := 23) dX7_overheard_18 (by decide) (fun c_18 => ?_) (fun c_18 => ?_)
      · exfalso; simp_all [-Int32.not_lt, -Int32.not_le]
      · refine a_iconst (pc := 21) (v := -1) dX7_overheard_21 (by decide) ?_
        refine a_iret (pc := 22) rfl dX7_overheard_22 ?_
        exact ⟨rfl, rfl⟩

set_option maxHeartbeats 4000000 in
set_option maxRecDepth 100000 in
theorem c_X6_letterOfS {μ : Mem} {w i k s N : Nat} (h0 : μ 2 0 = nI N) (hN : N ≤ 6) (hiN : i < N) (hk : k < 2 ^ 31) (hw : w ≤ 3) (hs : μ (stA 2 i + 1) 0 = nI s) (hs6 : s ≤ 6) (hks : s ≤ k) : Con shC mX6_letterOf [.ref 0, .int (nI i), .int (nI k), .int (nI w)] μ (fun r u => r = -4 ∧ μ = u) := by
  have z0 : shC[0]? = some (6, 8, [some 1, none, some 2, some 53, some 104, some 106, none, none]) := rfl
  have hn := net_2
  obtain ⟨hn0, hn1, hn2, hnS⟩ := id net_2
  have hi : i < 6 := by omega
  have ws := hnS i hi
  have w0 : shC[(stA 2 i)]? = _ := ws.1
  have w1 : shC[(stA 2 i) + 1]? = some (0, 3, [none, some ((stA 2 i) + 2), some ((stA 2 i) + 3)]) := ws.2.1.1
  have w2 : shC[(stA 2 i) + 2]? = some (100, 6, []) := ws.2.1.2.1
  have w3 : shC[(stA 2 i) + 3]? = some (100, 6, []) := ws.2.1.2.2
  have w4 : shC[(stA 2 i) + 4]? = some (1, 2, [none, some ((stA 2 i) + 5)]) := ws.2.2.1.1
  have w5 : shC[(stA 2 i) + 5]? = some (100, 24, []) := ws.2.2.1.2
  have w6 : shC[(stA 2 i) + 6]? = some (4, 4, [none, none, none, none]) := ws.2.2.2.1
  have w7 : shC[(stA 2 i) + 7]? = some (4, 4, [none, none, none, none]) := ws.2.2.2.2
  refine Con.ofAW (al0 := [some (.ref 0), some (.int (nI i)), some (.int (nI k)), some (.int (nI w)), none]) (by decide) rfl (Nat.le_of_ble_eq_true rfl) rfl ?_
  refine a_aload_n (pc := 0) dX6_letterOf_0 rfl rfl ?_
  refine a_iload_n (pc := 1) dX6_letterOf_1 rfl rfl ?_
  refine a_callI1 (pc := 2) ck_X6_129 ⟨(Nat.le_of_ble_eq_true rfl), (Nat.le_of_ble_eq_true rfl)⟩ (by assumption) (by decide) (Nat.le_of_ble_eq_true rfl) dX6_letterOf_2 rfl (c_X6_isStation h0 (by omega)) ?_
  rintro r u ⟨hr, rfl⟩
  have hr1 : r = 1 := by
    rcases hr with q | q
    · exact q.1
    · exact absurd ⟨i, hiN, rfl⟩ q.2
  subst hr1
  refine a_if_eq (pc := 5) (tgt := 21) dX6_letterOf_5 (by decide) (fun c_5 => ?_) (fun c_5 => ?_)
  · exact absurd c_5 (by decide)
  · refine a_iload_n (pc := 8) dX6_letterOf_8 rfl rfl ?_
    refine a_if_lt (pc := 9) (tgt := 21) dX6_letterOf_9 (by decide) (fun c_9 => ?_) (fun c_9 => ?_)
    · exact absurd c_9 (nI_pos hk)
    · refine a_iload_n (pc := 12) dX6_letterOf_12 rfl rfl ?_
      refine a_if_lt (pc := 13) (tgt := 21) dX6_letterOf_13 (by decide) (fun c_13 => ?_) (fun c_13 => ?_)
      · exact absurd c_13 (nI_pos (by omega))
      · refine a_iload_n (pc := 16) dX6_letterOf_16 rfl rfl ?_
        refine a_iconst (pc := 17) (v := 3) dX6_letterOf_17 (by decide) ?_
        refine a_icmp_le (pc := 18) (tgt := 23) dX6_letterOf_18 (by decide) (fun c_18 => ?_) (fun c_18 => ?_)
        · refine a_aload_n (pc := 23) dX6_letterOf_23 rfl rfl ?_
          refine a_getr (pc := 24) fl_X6_16 (by assumption) (by decide) (by rfl) dX6_letterOf_24 ?_
          refine a_getr (pc := 27) fl_X6_70 (by assumption) (by decide) (by rfl) dX6_letterOf_27 ?_
          refine a_iload_n (pc := 30) dX6_letterOf_30 rfl rfl ?_
          refine a_aald2 (pc := 31)  (by assumption) rfl (by omega) (by decide) (all_at (by omega)) dX6_letterOf_31 ?_
          refine a_astore (pc := 32) (al' := [some (.ref _), some (.int _), some (.int _), some (.int _), some (.ref _)]) dX6_letterOf_32 (by decide) rfl rfl ?_
          refine a_iload_n (pc := 34) dX6_letterOf_34 rfl rfl ?_
          refine a_aload (pc := 35) dX6_letterOf_35 rfl ?_
          refine a_getr (pc := 37) fl_X6_74 (by assumption) (by decide) (by rfl) dX6_letterOf_37 ?_
          refine a_geti (pc := 40) fl_X6_80 (by assumption) (by decide) (by rfl) dX6_letterOf_40 ?_
          refine a_top (y := nI s) hs ?_
          refine a_icmp_lt (pc := 43) (tgt := 49) dX6_letterOf_43 (by decide) (fun c_43 => ?_) (fun c_43 => ?_)
          · exact absurd c_43 (nI_nlt hks hk)
          · refine a_bipush (pc := 46) (v := -4) dX6_letterOf_46 (by decide) ?_
            refine a_iret (pc := 48) rfl dX6_letterOf_48 ?_
            exact ⟨rfl, rfl⟩
        · exact absurd (nI_le (b := 3) (by omega) (by omega)) c_18

set_option maxHeartbeats 4000000 in
set_option maxRecDepth 100000 in
theorem c_X7_letterOfS {ν : Mem} {w i k s N : Nat} (h0 : ν 0 2 = nI N) (hN : N ≤ 6) (hiN : i < N) (hk : k < 2 ^ 31) (hw : w ≤ 3) (hs : ν 2 (70 * i + 8) = nI s) (hs6 : s ≤ 6) (hks : s ≤ k) : Con shM mX7_letterOf [.ref 0, .int (nI i), .int (nI k), .int (nI w)] ν (fun r u => r = -4 ∧ ν = u) := by
  have m0 : shM[0]? = some (7, 18, [none, some 1, none, none, none, none, none, some 2, some 3, none, none, some 4, none, none, some 5, some 6, some 7, some 8]) := rfl
  have m1 : shM[1]? = some (100, 200, []) := rfl
  have m2 : shM[2]? = some (100, 1320, []) := rfl
  have m3 : shM[3]? = some (100, 1760, []) := rfl
  have m4 : shM[4]? = some (100, 4, []) := rfl
  have m5 : shM[5]? = some (100, 6, []) := rfl
  have m6 : shM[6]? = some (100, 6, []) := rfl
  have m7 : shM[7]? = some (100, 6, []) := rfl
  have m8 : shM[8]? = some (100, 6, []) := rfl
  refine Con.ofAW (al0 := [some (.ref 0), some (.int (nI i)), some (.int (nI k)), some (.int (nI w)), none, none]) (by decide) rfl (Nat.le_of_ble_eq_true rfl) rfl ?_
  refine a_aload_n (pc := 0) dX7_letterOf_0 rfl rfl ?_
  refine a_iload_n (pc := 1) dX7_letterOf_1 rfl rfl ?_
  refine a_callI1 (pc := 2) ck_X7_175 ⟨(Nat.le_of_ble_eq_true rfl), (Nat.le_of_ble_eq_true rfl)⟩ (by assumption) (by decide) (Nat.le_of_ble_eq_true rfl) dX7_letterOf_2 rfl (c_X7_isStation h0 (by omega) (by omega)) ?_
  rintro r u ⟨hr, rfl⟩
  have hr1 : r = 1 := by
    rcases hr with q | q
    · exact q.1
    · exact absurd ⟨i, hiN, rfl⟩ q.2
  subst hr1
  refine a_if_eq (pc := 5) (tgt := 21) dX7_letterOf_5 (by decide) (fun c_5 => ?_) (fun c_5 => ?_)
  · exact absurd c_5 (by decide)
  · refine a_iload_n (pc := 8) dX7_letterOf_8 rfl rfl ?_
    refine a_if_lt (pc := 9) (tgt := 21) dX7_letterOf_9 (by decide) (fun c_9 => ?_) (fun c_9 => ?_)
    · exact absurd c_9 (nI_pos hk)
    · refine a_iload_n (pc := 12) dX7_letterOf_12 rfl rfl ?_
      refine a_iconst (pc := 13) (v := 0) dX7_letterOf_13 (by decide) ?_
      refine a_iconst (pc := 14) (v := 3) dX7_letterOf_14 (by decide) ?_
      refine a_callS3 (pc := 15) cs_X7_94 ⟨(Nat.le_of_ble_eq_true rfl), (Nat.le_of_ble_eq_true rfl)⟩ (Nat.le_of_ble_eq_true rfl) dX7_letterOf_15 rfl c_X7_isIn ?_
      rintro r u ⟨hr, rfl⟩
      have hr1 : r = 1 := by
        rcases hr with q | q
        · exact q.1
        · rcases q.2 with q | q
          · exact absurd q (nI_pos (by omega))
          · exact absurd q (nI_nlt (a := 3) (by omega) (by omega))
      subst hr1
      refine a_if_ne (pc := 18) (tgt := 23) dX7_letterOf_18 (by decide) (fun c_18 => ?_) (fun c_18 => ?_)
      · refine a_iconst (pc := 23) (v := 0) dX7_letterOf_23 (by decide) ?_
        refine a_iload_n (pc := 24) dX7_letterOf_24 rfl rfl ?_
        refine a_callS2 (pc := 25) cs_X7_52 ⟨(Nat.le_of_ble_eq_true rfl), (Nat.le_of_ble_eq_true rfl)⟩ (Nat.le_of_ble_eq_true rfl) dX7_letterOf_25 rfl (c_X7_at (r := 0)) ?_
        rintro r_ u ⟨rfl, rfl⟩
        refine a_istore (pc := 28) (al' := [some (.ref _), some (.int _), some (.int _), some (.int _), some (.int _), none]) dX7_letterOf_28 (by decide) rfl rfl ?_
        refine a_iload_n (pc := 30) dX7_letterOf_30 rfl rfl ?_
        refine a_aload_n (pc := 31) dX7_letterOf_31 rfl rfl ?_
        refine a_getr (pc := 32) fl_X7_13 (by assumption) (by decide) (by rfl) dX7_letterOf_32 ?_
        refine a_iload (pc := 35) dX7_letterOf_35 rfl ?_
        refine a_bipush (pc := 37) (v := 8) dX7_letterOf_37 (by decide) ?_
        refine a_iaddN (pc := 39) (a := _) (b := 8) rfl rfl dX7_letterOf_39 ?_
        refine a_iald (pc := 40)  (by assumption) rfl (by omega) (by decide) dX7_letterOf_40 ?_
        refine a_top (y := nI s) (by simpa using hs) ?_
        refine a_icmp_lt (pc := 41) (tgt := 47) dX7_letterOf_41 (by decide) (fun c_41 => ?_) (fun c_41 => ?_)
        · exact absurd c_41 (nI_nlt hks hk)
        · refine a_bipush (pc := 44) (v := -4) dX7_letterOf_44 (by decide) ?_
          refine a_iret (pc := 46) rfl dX7_letterOf_46 ?_
          exact ⟨rfl, rfl⟩
      · exact absurd c_18 (by decide)

set_option maxHeartbeats 4000000 in
set_option maxRecDepth 100000 in
theorem c_X6_letterOf0 {μ : Mem} {i k s N : Nat} (h0 : μ 2 0 = nI N) (hN : N ≤ 6) (hiN : i < N) (hk : k < 2 ^ 31) (hs : μ (stA 2 i + 1) 0 = nI s) (hs6 : s ≤ 6) (hks : k < s) : Con shC mX6_letterOf [.ref 0, .int (nI i), .int (nI k), .int 0] μ (fun r u => r = μ ((stA 2 i) + 2) k ∧ μ = u) := by
  have z0 : shC[0]? = some (6, 8, [some 1, none, some 2, some 53, some 104, some 106, none, none]) := rfl
  have hn := net_2
  obtain ⟨hn0, hn1, hn2, hnS⟩ := id net_2
  have hi : i < 6 := by omega
  have ws := hnS i hi
  have w0 : shC[(stA 2 i)]? = _ := ws.1
  have w1 : shC[(stA 2 i) + 1]? = some (0, 3, [none, some ((stA 2 i) + 2), some ((stA 2 i) + 3)]) := ws.2.1.1
  have w2 : shC[(stA 2 i) + 2]? = some (100, 6, []) := ws.2.1.2.1
  have w3 : shC[(stA 2 i) + 3]? = some (100, 6, []) := ws.2.1.2.2
  have w4 : shC[(stA 2 i) + 4]? = some (1, 2, [none, some ((stA 2 i) + 5)]) := ws.2.2.1.1
  have w5 : shC[(stA 2 i) + 5]? = some (100, 24, []) := ws.2.2.1.2
  have w6 : shC[(stA 2 i) + 6]? = some (4, 4, [none, none, none, none]) := ws.2.2.2.1
  have w7 : shC[(stA 2 i) + 7]? = some (4, 4, [none, none, none, none]) := ws.2.2.2.2
  refine Con.ofAW (al0 := [some (.ref 0), some (.int (nI i)), some (.int (nI k)), some (.int 0), none]) (by decide) rfl (Nat.le_of_ble_eq_true rfl) rfl ?_
  refine a_aload_n (pc := 0) dX6_letterOf_0 rfl rfl ?_
  refine a_iload_n (pc := 1) dX6_letterOf_1 rfl rfl ?_
  refine a_callI1 (pc := 2) ck_X6_129 ⟨(Nat.le_of_ble_eq_true rfl), (Nat.le_of_ble_eq_true rfl)⟩ (by assumption) (by decide) (Nat.le_of_ble_eq_true rfl) dX6_letterOf_2 rfl (c_X6_isStation h0 (by omega)) ?_
  rintro r u ⟨hr, rfl⟩
  have hr1 : r = 1 := by
    rcases hr with q | q
    · exact q.1
    · exact absurd ⟨i, hiN, rfl⟩ q.2
  subst hr1
  refine a_if_eq (pc := 5) (tgt := 21) dX6_letterOf_5 (by decide) (fun c_5 => ?_) (fun c_5 => ?_)
  · exact absurd c_5 (by decide)
  · refine a_iload_n (pc := 8) dX6_letterOf_8 rfl rfl ?_
    refine a_if_lt (pc := 9) (tgt := 21) dX6_letterOf_9 (by decide) (fun c_9 => ?_) (fun c_9 => ?_)
    · exact absurd c_9 (nI_pos hk)
    · refine a_iload_n (pc := 12) dX6_letterOf_12 rfl rfl ?_
      refine a_if_lt (pc := 13) (tgt := 21) dX6_letterOf_13 (by decide) (fun c_13 => ?_) (fun c_13 => ?_)
      · exact absurd c_13 (by decide)
      · refine a_iload_n (pc := 16) dX6_letterOf_16 rfl rfl ?_
        refine a_iconst (pc := 17) (v := 3) dX6_letterOf_17 (by decide) ?_
        refine a_icmp_le (pc := 18) (tgt := 23) dX6_letterOf_18 (by decide) (fun c_18 => ?_) (fun c_18 => ?_)
        · refine a_aload_n (pc := 23) dX6_letterOf_23 rfl rfl ?_
          refine a_getr (pc := 24) fl_X6_16 (by assumption) (by decide) (by rfl) dX6_letterOf_24 ?_
          refine a_getr (pc := 27) fl_X6_70 (by assumption) (by decide) (by rfl) dX6_letterOf_27 ?_
          refine a_iload_n (pc := 30) dX6_letterOf_30 rfl rfl ?_
          refine a_aald2 (pc := 31)  (by assumption) rfl (by omega) (by decide) (all_at (by omega)) dX6_letterOf_31 ?_
          refine a_astore (pc := 32) (al' := [some (.ref _), some (.int _), some (.int _), some (.int _), some (.ref _)]) dX6_letterOf_32 (by decide) rfl rfl ?_
          refine a_iload_n (pc := 34) dX6_letterOf_34 rfl rfl ?_
          refine a_aload (pc := 35) dX6_letterOf_35 rfl ?_
          refine a_getr (pc := 37) fl_X6_74 (by assumption) (by decide) (by rfl) dX6_letterOf_37 ?_
          refine a_geti (pc := 40) fl_X6_80 (by assumption) (by decide) (by rfl) dX6_letterOf_40 ?_
          refine a_top (y := nI s) hs ?_
          refine a_icmp_lt (pc := 43) (tgt := 49) dX6_letterOf_43 (by decide) (fun c_43 => ?_) (fun c_43 => ?_)
          · refine a_iload_n (pc := 49) dX6_letterOf_49 rfl rfl ?_
            refine a_tableIn (pc := 50) (off := 26) (tgt := 76) dX6_letterOf_50 (by decide) (by decide) (by decide) (by decide) ?_
            refine a_aload (pc := 76) dX6_letterOf_76 rfl ?_
            refine a_getr (pc := 78) fl_X6_74 (by assumption) (by decide) (by rfl) dX6_letterOf_78 ?_
            refine a_getr (pc := 81) fl_X6_165 (by assumption) (by decide) (by rfl) dX6_letterOf_81 ?_
            refine a_iload_n (pc := 84) dX6_letterOf_84 rfl rfl ?_
            refine a_iald (pc := 85)  (by assumption) rfl (by omega) (by decide) dX6_letterOf_85 ?_
            refine a_iret (pc := 86) rfl dX6_letterOf_86 ?_
            exact ⟨rfl, rfl⟩
          · exact absurd (nI_lt hks (by omega)) c_43
        · exact absurd c_18 (by decide)

set_option maxHeartbeats 4000000 in
set_option maxRecDepth 100000 in
theorem c_X7_letterOf0 {ν : Mem} {i k s N : Nat} (h0 : ν 0 2 = nI N) (hN : N ≤ 6) (hiN : i < N) (hk : k < 2 ^ 31) (hs : ν 2 (70 * i + 8) = nI s) (hs6 : s ≤ 6) (hks : k < s) : Con shM mX7_letterOf [.ref 0, .int (nI i), .int (nI k), .int 0] ν (fun r u => r = ν 2 (70 * i + 9 + 2 * k) ∧ ν = u) := by
  have m0 : shM[0]? = some (7, 18, [none, some 1, none, none, none, none, none, some 2, some 3, none, none, some 4, none, none, some 5, some 6, some 7, some 8]) := rfl
  have m1 : shM[1]? = some (100, 200, []) := rfl
  have m2 : shM[2]? = some (100, 1320, []) := rfl
  have m3 : shM[3]? = some (100, 1760, []) := rfl
  have m4 : shM[4]? = some (100, 4, []) := rfl
  have m5 : shM[5]? = some (100, 6, []) := rfl
  have m6 : shM[6]? = some (100, 6, []) := rfl
  have m7 : shM[7]? = some (100, 6, []) := rfl
  have m8 : shM[8]? = some (100, 6, []) := rfl
  refine Con.ofAW (al0 := [some (.ref 0), some (.int (nI i)), some (.int (nI k)), some (.int 0), none, none]) (by decide) rfl (Nat.le_of_ble_eq_true rfl) rfl ?_
  refine a_aload_n (pc := 0) dX7_letterOf_0 rfl rfl ?_
  refine a_iload_n (pc := 1) dX7_letterOf_1 rfl rfl ?_
  refine a_callI1 (pc := 2) ck_X7_175 ⟨(Nat.le_of_ble_eq_true rfl), (Nat.le_of_ble_eq_true rfl)⟩ (by assumption) (by decide) (Nat.le_of_ble_eq_true rfl) dX7_letterOf_2 rfl (c_X7_isStation h0 (by omega) (by omega)) ?_
  rintro r u ⟨hr, rfl⟩
  have hr1 : r = 1 := by
    rcases hr with q | q
    · exact q.1
    · exact absurd ⟨i, hiN, rfl⟩ q.2
  subst hr1
  refine a_if_eq (pc := 5) (tgt := 21) dX7_letterOf_5 (by decide) (fun c_5 => ?_) (fun c_5 => ?_)
  · exact absurd c_5 (by decide)
  · refine a_iload_n (pc := 8) dX7_letterOf_8 rfl rfl ?_
    refine a_if_lt (pc := 9) (tgt := 21) dX7_letterOf_9 (by decide) (fun c_9 => ?_) (fun c_9 => ?_)
    · exact absurd c_9 (nI_pos hk)
    · refine a_iload_n (pc := 12) dX7_letterOf_12 rfl rfl ?_
      refine a_iconst (pc := 13) (v := 0) dX7_letterOf_13 (by decide) ?_
      refine a_iconst (pc := 14) (v := 3) dX7_letterOf_14 (by decide) ?_
      refine a_callS3 (pc := 15) cs_X7_94 ⟨(Nat.le_of_ble_eq_true rfl), (Nat.le_of_ble_eq_true rfl)⟩ (Nat.le_of_ble_eq_true rfl) dX7_letterOf_15 rfl c_X7_isIn ?_
      rintro r u ⟨hr, rfl⟩
      have hr1 : r = 1 := by
        rcases hr with q | q
        · exact q.1
        · exact absurd q.2 (by decide)
      subst hr1
      refine a_if_ne (pc := 18) (tgt := 23) dX7_letterOf_18 (by decide) (fun c_18 => ?_) (fun c_18 => ?_)
      · refine a_iconst (pc := 23) (v := 0) dX7_letterOf_23 (by decide) ?_
        refine a_iload_n (pc := 24) dX7_letterOf_24 rfl rfl ?_
        refine a_callS2 (pc := 25) cs_X7_52 ⟨(Nat.le_of_ble_eq_true rfl), (Nat.le_of_ble_eq_true rfl)⟩ (Nat.le_of_ble_eq_true rfl) dX7_letterOf_25 rfl (c_X7_at (r := 0)) ?_
        rintro r_ u ⟨rfl, rfl⟩
        refine a_istore (pc := 28) (al' := [some (.ref _), some (.int _), some (.int _), some (.int _), some (.int _), none]) dX7_letterOf_28 (by decide) rfl rfl ?_
        refine a_iload_n (pc := 30) dX7_letterOf_30 rfl rfl ?_
        refine a_aload_n (pc := 31) dX7_letterOf_31 rfl rfl ?_
        refine a_getr (pc := 32) fl_X7_13 (by assumption) (by decide) (by rfl) dX7_letterOf_32 ?_
        refine a_iload (pc := 35) dX7_letterOf_35 rfl ?_
        refine a_bipush (pc := 37) (v := 8) dX7_letterOf_37 (by decide) ?_
        refine a_iaddN (pc := 39) (a := _) (b := 8) rfl rfl dX7_letterOf_39 ?_
        refine a_iald (pc := 40)  (by assumption) rfl (by omega) (by decide) dX7_letterOf_40 ?_
        refine a_top (y := nI s) (by simpa using hs) ?_
        refine a_icmp_lt (pc := 41) (tgt := 47) dX7_letterOf_41 (by decide) (fun c_41 => ?_) (fun c_41 => ?_)
        · refine a_aload_n (pc := 47) dX7_letterOf_47 rfl rfl ?_
          refine a_getr (pc := 48) fl_X7_13 (by assumption) (by decide) (by rfl) dX7_letterOf_48 ?_
          refine a_iload (pc := 51) dX7_letterOf_51 rfl ?_
          refine a_bipush (pc := 53) (v := 9) dX7_letterOf_53 (by decide) ?_
          refine a_iaddN (pc := 55) (a := _) (b := 9) rfl rfl dX7_letterOf_55 ?_
          refine a_iconst (pc := 56) (v := 2) dX7_letterOf_56 (by decide) ?_
          refine a_iload_n (pc := 57) dX7_letterOf_57 rfl rfl ?_
          refine a_imulN (pc := 58) (a := 2) (b := _) rfl rfl dX7_letterOf_58 ?_
          refine a_iaddN (pc := 59) (a := _) (b := _) rfl rfl dX7_letterOf_59 ?_
          refine a_iconst (pc := 60) (v := 1) dX7_letterOf_60 (by decide) ?_
          refine a_iaddN (pc := 61) (a := _) (b := 1) rfl rfl dX7_letterOf_61 ?_
          refine a_iald (pc := 62)  (by assumption) rfl (by omega) (by decide) dX7_letterOf_62 ?_
          refine a_istore (pc := 63) (al' := [some (.ref _), some (.int _), some (.int _), some (.int _), some (.int _), some (.int _)]) dX7_letterOf_63 (by decide) rfl rfl ?_
          refine a_iload_n (pc := 65) dX7_letterOf_65 rfl rfl ?_
          refine a_tableIn (pc := 66) (off := 26) (tgt := 92) dX7_letterOf_66 (by decide) (by decide) (by decide) (by decide) ?_
          refine a_aload_n (pc := 92) dX7_letterOf_92 rfl rfl ?_
          refine a_getr (pc := 93) fl_X7_13 (by assumption) (by decide) (by rfl) dX7_letterOf_93 ?_
          refine a_iload (pc := 96) dX7_letterOf_96 rfl ?_
          refine a_bipush (pc := 98) (v := 9) dX7_letterOf_98 (by decide) ?_
          refine a_iaddN (pc := 100) (a := _) (b := 9) rfl rfl dX7_letterOf_100 ?_
          refine a_iconst (pc := 101) (v := 2) dX7_letterOf_101 (by decide) ?_
          refine a_iload_n (pc := 102) dX7_letterOf_102 rfl rfl ?_
          refine a_imulN (pc := 103) (a := 2) (b := _) rfl rfl dX7_letterOf_103 ?_
          refine a_iaddN (pc := 104) (a := _) (b := _) rfl rfl dX7_letterOf_104 ?_
          refine a_iald (pc := 105)  (by assumption) rfl (by omega) (by decide) dX7_letterOf_105 ?_
          refine a_iret (pc := 106) rfl dX7_letterOf_106 ?_
          simp
        · exact absurd (nI_lt hks (by omega)) c_41
      · exact absurd c_18 (by decide)

set_option maxHeartbeats 4000000 in
set_option maxRecDepth 100000 in
theorem c_X6_letterOf1 {μ : Mem} {i k s N : Nat} (h0 : μ 2 0 = nI N) (hN : N ≤ 6) (hiN : i < N) (hk : k < 2 ^ 31) (hs : μ (stA 2 i + 1) 0 = nI s) (hs6 : s ≤ 6) (hks : k < s) : Con shC mX6_letterOf [.ref 0, .int (nI i), .int (nI k), .int 1] μ (fun r u => r = μ ((stA 2 i) + 3) k ∧ μ = u) := by
  have z0 : shC[0]? = some (6, 8, [some 1, none, some 2, some 53, some 104, some 106, none, none]) := rfl
  have hn := net_2
  obtain ⟨hn0, hn1, hn2, hnS⟩ := id net_2
  have hi : i < 6 := by omega
  have ws := hnS i hi
  have w0 : shC[(stA 2 i)]? = _ := ws.1
  have w1 : shC[(stA 2 i) + 1]? = some (0, 3, [none, some ((stA 2 i) + 2), some ((stA 2 i) + 3)]) := ws.2.1.1
  have w2 : shC[(stA 2 i) + 2]? = some (100, 6, []) := ws.2.1.2.1
  have w3 : shC[(stA 2 i) + 3]? = some (100, 6, []) := ws.2.1.2.2
  have w4 : shC[(stA 2 i) + 4]? = some (1, 2, [none, some ((stA 2 i) + 5)]) := ws.2.2.1.1
  have w5 : shC[(stA 2 i) + 5]? = some (100, 24, []) := ws.2.2.1.2
  have w6 : shC[(stA 2 i) + 6]? = some (4, 4, [none, none, none, none]) := ws.2.2.2.1
  have w7 : shC[(stA 2 i) + 7]? = some (4, 4, [none, none, none, none]) := ws.2.2.2.2
  refine Con.ofAW (al0 := [some (.ref 0), some (.int (nI i)), some (.int (nI k)), some (.int 1), none]) (by decide) rfl (Nat.le_of_ble_eq_true rfl) rfl ?_
  refine a_aload_n (pc := 0) dX6_letterOf_0 rfl rfl ?_
  refine a_iload_n (pc := 1) dX6_letterOf_1 rfl rfl ?_
  refine a_callI1 (pc := 2) ck_X6_129 ⟨(Nat.le_of_ble_eq_true rfl), (Nat.le_of_ble_eq_true rfl)⟩ (by assumption) (by decide) (Nat.le_of_ble_eq_true rfl) dX6_letterOf_2 rfl (c_X6_isStation h0 (by omega)) ?_
  rintro r u ⟨hr, rfl⟩
  have hr1 : r = 1 := by
    rcases hr with q | q
    · exact q.1
    · exact absurd ⟨i, hiN, rfl⟩ q.2
  subst hr1
  refine a_if_eq (pc := 5) (tgt := 21) dX6_letterOf_5 (by decide) (fun c_5 => ?_) (fun c_5 => ?_)
  · exact absurd c_5 (by decide)
  · refine a_iload_n (pc := 8) dX6_letterOf_8 rfl rfl ?_
    refine a_if_lt (pc := 9) (tgt := 21) dX6_letterOf_9 (by decide) (fun c_9 => ?_) (fun c_9 => ?_)
    · exact absurd c_9 (nI_pos hk)
    · refine a_iload_n (pc := 12) dX6_letterOf_12 rfl rfl ?_
      refine a_if_lt (pc := 13) (tgt := 21) dX6_letterOf_13 (by decide) (fun c_13 => ?_) (fun c_13 => ?_)
      · exact absurd c_13 (by decide)
      · refine a_iload_n (pc := 16) dX6_letterOf_16 rfl rfl ?_
        refine a_iconst (pc := 17) (v := 3) dX6_letterOf_17 (by decide) ?_
        refine a_icmp_le (pc := 18) (tgt := 23) dX6_letterOf_18 (by decide) (fun c_18 => ?_) (fun c_18 => ?_)
        · refine a_aload_n (pc := 23) dX6_letterOf_23 rfl rfl ?_
          refine a_getr (pc := 24) fl_X6_16 (by assumption) (by decide) (by rfl) dX6_letterOf_24 ?_
          refine a_getr (pc := 27) fl_X6_70 (by assumption) (by decide) (by rfl) dX6_letterOf_27 ?_
          refine a_iload_n (pc := 30) dX6_letterOf_30 rfl rfl ?_
          refine a_aald2 (pc := 31)  (by assumption) rfl (by omega) (by decide) (all_at (by omega)) dX6_letterOf_31 ?_
          refine a_astore (pc := 32) (al' := [some (.ref _), some (.int _), some (.int _), some (.int _), some (.ref _)]) dX6_letterOf_32 (by decide) rfl rfl ?_
          refine a_iload_n (pc := 34) dX6_letterOf_34 rfl rfl ?_
          refine a_aload (pc := 35) dX6_letterOf_35 rfl ?_
          refine a_getr (pc := 37) fl_X6_74 (by assumption) (by decide) (by rfl) dX6_letterOf_37 ?_
          refine a_geti (pc := 40) fl_X6_80 (by assumption) (by decide) (by rfl) dX6_letterOf_40 ?_
          refine a_top (y := nI s) hs ?_
          refine a_icmp_lt (pc := 43) (tgt := 49) dX6_letterOf_43 (by decide) (fun c_43 => ?_) (fun c_43 => ?_)
          · refine a_iload_n (pc := 49) dX6_letterOf_49 rfl rfl ?_
            refine a_tableIn (pc := 50) (off := 37) (tgt := 87) dX6_letterOf_50 (by decide) (by decide) (by decide) (by decide) ?_
            refine a_aload (pc := 87) dX6_letterOf_87 rfl ?_
            refine a_getr (pc := 89) fl_X6_74 (by assumption) (by decide) (by rfl) dX6_letterOf_89 ?_
            refine a_getr (pc := 92) fl_X6_169 (by assumption) (by decide) (by rfl) dX6_letterOf_92 ?_
            refine a_iload_n (pc := 95) dX6_letterOf_95 rfl rfl ?_
            refine a_iald (pc := 96)  (by assumption) rfl (by omega) (by decide) dX6_letterOf_96 ?_
            refine a_iret (pc := 97) rfl dX6_letterOf_97 ?_
            exact ⟨rfl, rfl⟩
          · exact absurd (nI_lt hks (by omega)) c_43
        · exact absurd c_18 (by decide)

set_option maxHeartbeats 4000000 in
set_option maxRecDepth 100000 in
theorem c_X7_letterOf1 {ν : Mem} {i k s N : Nat} (h0 : ν 0 2 = nI N) (hN : N ≤ 6) (hiN : i < N) (hk : k < 2 ^ 31) (hs : ν 2 (70 * i + 8) = nI s) (hs6 : s ≤ 6) (hks : k < s) : Con shM mX7_letterOf [.ref 0, .int (nI i), .int (nI k), .int 1] ν (fun r u => r = ν 2 (70 * i + 9 + 2 * k + 1) ∧ ν = u) := by
  have m0 : shM[0]? = some (7, 18, [none, some 1, none, none, none, none, none, some 2, some 3, none, none, some 4, none, none, some 5, some 6, some 7, some 8]) := rfl
  have m1 : shM[1]? = some (100, 200, []) := rfl
  have m2 : shM[2]? = some (100, 1320, []) := rfl
  have m3 : shM[3]? = some (100, 1760, []) := rfl
  have m4 : shM[4]? = some (100, 4, []) := rfl
  have m5 : shM[5]? = some (100, 6, []) := rfl
  have m6 : shM[6]? = some (100, 6, []) := rfl
  have m7 : shM[7]? = some (100, 6, []) := rfl
  have m8 : shM[8]? = some (100, 6, []) := rfl
  refine Con.ofAW (al0 := [some (.ref 0), some (.int (nI i)), some (.int (nI k)), some (.int 1), none, none]) (by decide) rfl (Nat.le_of_ble_eq_true rfl) rfl ?_
  refine a_aload_n (pc := 0) dX7_letterOf_0 rfl rfl ?_
  refine a_iload_n (pc := 1) dX7_letterOf_1 rfl rfl ?_
  refine a_callI1 (pc := 2) ck_X7_175 ⟨(Nat.le_of_ble_eq_true rfl), (Nat.le_of_ble_eq_true rfl)⟩ (by assumption) (by decide) (Nat.le_of_ble_eq_true rfl) dX7_letterOf_2 rfl (c_X7_isStation h0 (by omega) (by omega)) ?_
  rintro r u ⟨hr, rfl⟩
  have hr1 : r = 1 := by
    rcases hr with q | q
    · exact q.1
    · exact absurd ⟨i, hiN, rfl⟩ q.2
  subst hr1
  refine a_if_eq (pc := 5) (tgt := 21) dX7_letterOf_5 (by decide) (fun c_5 => ?_) (fun c_5 => ?_)
  · exact absurd c_5 (by decide)
  · refine a_iload_n (pc := 8) dX7_letterOf_8 rfl rfl ?_
    refine a_if_lt (pc := 9) (tgt := 21) dX7_letterOf_9 (by decide) (fun c_9 => ?_) (fun c_9 => ?_)
    · exact absurd c_9 (nI_pos hk)
    · refine a_iload_n (pc := 12) dX7_letterOf_12 rfl rfl ?_
      refine a_iconst (pc := 13) (v := 0) dX7_letterOf_13 (by decide) ?_
      refine a_iconst (pc := 14) (v := 3) dX7_letterOf_14 (by decide) ?_
      refine a_callS3 (pc := 15) cs_X7_94 ⟨(Nat.le_of_ble_eq_true rfl), (Nat.le_of_ble_eq_true rfl)⟩ (Nat.le_of_ble_eq_true rfl) dX7_letterOf_15 rfl c_X7_isIn ?_
      rintro r u ⟨hr, rfl⟩
      have hr1 : r = 1 := by
        rcases hr with q | q
        · exact q.1
        · exact absurd q.2 (by decide)
      subst hr1
      refine a_if_ne (pc := 18) (tgt := 23) dX7_letterOf_18 (by decide) (fun c_18 => ?_) (fun c_18 => ?_)
      · refine a_iconst (pc := 23) (v := 0) dX7_letterOf_23 (by decide) ?_
        refine a_iload_n (pc := 24) dX7_letterOf_24 rfl rfl ?_
        refine a_callS2 (pc := 25) cs_X7_52 ⟨(Nat.le_of_ble_eq_true rfl), (Nat.le_of_ble_eq_true rfl)⟩ (Nat.le_of_ble_eq_true rfl) dX7_letterOf_25 rfl (c_X7_at (r := 0)) ?_
        rintro r_ u ⟨rfl, rfl⟩
        refine a_istore (pc := 28) (al' := [some (.ref _), some (.int _), some (.int _), some (.int _), some (.int _), none]) dX7_letterOf_28 (by decide) rfl rfl ?_
        refine a_iload_n (pc := 30) dX7_letterOf_30 rfl rfl ?_
        refine a_aload_n (pc := 31) dX7_letterOf_31 rfl rfl ?_
        refine a_getr (pc := 32) fl_X7_13 (by assumption) (by decide) (by rfl) dX7_letterOf_32 ?_
        refine a_iload (pc := 35) dX7_letterOf_35 rfl ?_
        refine a_bipush (pc := 37) (v := 8) dX7_letterOf_37 (by decide) ?_
        refine a_iaddN (pc := 39) (a := _) (b := 8) rfl rfl dX7_letterOf_39 ?_
        refine a_iald (pc := 40)  (by assumption) rfl (by omega) (by decide) dX7_letterOf_40 ?_
        refine a_top (y := nI s) (by simpa using hs) ?_
        refine a_icmp_lt (pc := 41) (tgt := 47) dX7_letterOf_41 (by decide) (fun c_41 => ?_) (fun c_41 => ?_)
        · refine a_aload_n (pc := 47) dX7_letterOf_47 rfl rfl ?_
          refine a_getr (pc := 48) fl_X7_13 (by assumption) (by decide) (by rfl) dX7_letterOf_48 ?_
          refine a_iload (pc := 51) dX7_letterOf_51 rfl ?_
          refine a_bipush (pc := 53) (v := 9) dX7_letterOf_53 (by decide) ?_
          refine a_iaddN (pc := 55) (a := _) (b := 9) rfl rfl dX7_letterOf_55 ?_
          refine a_iconst (pc := 56) (v := 2) dX7_letterOf_56 (by decide) ?_
          refine a_iload_n (pc := 57) dX7_letterOf_57 rfl rfl ?_
          refine a_imulN (pc := 58) (a := 2) (b := _) rfl rfl dX7_letterOf_58 ?_
          refine a_iaddN (pc := 59) (a := _) (b := _) rfl rfl dX7_letterOf_59 ?_
          refine a_iconst (pc := 60) (v := 1) dX7_letterOf_60 (by decide) ?_
          refine a_iaddN (pc := 61) (a := _) (b := 1) rfl rfl dX7_letterOf_61 ?_
          refine a_iald (pc := 62)  (by assumption) rfl (by omega) (by decide) dX7_letterOf_62 ?_
          refine a_istore (pc := 63) (al' := [some (.ref _), some (.int _), some (.int _), some (.int _), some (.int _), some (.int _)]) dX7_letterOf_63 (by decide) rfl rfl ?_
          refine a_iload_n (pc := 65) dX7_letterOf_65 rfl rfl ?_
          refine a_tableIn (pc := 66) (off := 41) (tgt := 107) dX7_letterOf_66 (by decide) (by decide) (by decide) (by decide) ?_
          refine a_iload (pc := 107) dX7_letterOf_107 rfl ?_
          refine a_iret (pc := 109) rfl dX7_letterOf_109 ?_
          simp
        · exact absurd (nI_lt hks (by omega)) c_41
      · exact absurd c_18 (by decide)

set_option maxHeartbeats 4000000 in
set_option maxRecDepth 100000 in
theorem c_X6_letterOf2 {μ : Mem} {i k s N : Nat} (h0 : μ 2 0 = nI N) (hN : N ≤ 6) (hiN : i < N) (hk : k < 2 ^ 31) (hs : μ (stA 2 i + 1) 0 = nI s) (hs6 : s ≤ 6) (hks : k < s) : Con shC mX6_letterOf [.ref 0, .int (nI i), .int (nI k), .int 2] μ (fun r u => r = (if μ ((stA 2 i) + 3) k < μ 2 3 then 0 else 1) ∧ μ = u) := by
  have z0 : shC[0]? = some (6, 8, [some 1, none, some 2, some 53, some 104, some 106, none, none]) := rfl
  have hn := net_2
  obtain ⟨hn0, hn1, hn2, hnS⟩ := id net_2
  have hi : i < 6 := by omega
  have ws := hnS i hi
  have w0 : shC[(stA 2 i)]? = _ := ws.1
  have w1 : shC[(stA 2 i) + 1]? = some (0, 3, [none, some ((stA 2 i) + 2), some ((stA 2 i) + 3)]) := ws.2.1.1
  have w2 : shC[(stA 2 i) + 2]? = some (100, 6, []) := ws.2.1.2.1
  have w3 : shC[(stA 2 i) + 3]? = some (100, 6, []) := ws.2.1.2.2
  have w4 : shC[(stA 2 i) + 4]? = some (1, 2, [none, some ((stA 2 i) + 5)]) := ws.2.2.1.1
  have w5 : shC[(stA 2 i) + 5]? = some (100, 24, []) := ws.2.2.1.2
  have w6 : shC[(stA 2 i) + 6]? = some (4, 4, [none, none, none, none]) := ws.2.2.2.1
  have w7 : shC[(stA 2 i) + 7]? = some (4, 4, [none, none, none, none]) := ws.2.2.2.2
  refine Con.ofAW (al0 := [some (.ref 0), some (.int (nI i)), some (.int (nI k)), some (.int 2), none]) (by decide) rfl (Nat.le_of_ble_eq_true rfl) rfl ?_
  refine a_aload_n (pc := 0) dX6_letterOf_0 rfl rfl ?_
  refine a_iload_n (pc := 1) dX6_letterOf_1 rfl rfl ?_
  refine a_callI1 (pc := 2) ck_X6_129 ⟨(Nat.le_of_ble_eq_true rfl), (Nat.le_of_ble_eq_true rfl)⟩ (by assumption) (by decide) (Nat.le_of_ble_eq_true rfl) dX6_letterOf_2 rfl (c_X6_isStation h0 (by omega)) ?_
  rintro r u ⟨hr, rfl⟩
  have hr1 : r = 1 := by
    rcases hr with q | q
    · exact q.1
    · exact absurd ⟨i, hiN, rfl⟩ q.2
  subst hr1
  refine a_if_eq (pc := 5) (tgt := 21) dX6_letterOf_5 (by decide) (fun c_5 => ?_) (fun c_5 => ?_)
  · exact absurd c_5 (by decide)
  · refine a_iload_n (pc := 8) dX6_letterOf_8 rfl rfl ?_
    refine a_if_lt (pc := 9) (tgt := 21) dX6_letterOf_9 (by decide) (fun c_9 => ?_) (fun c_9 => ?_)
    · exact absurd c_9 (nI_pos hk)
    · refine a_iload_n (pc := 12) dX6_letterOf_12 rfl rfl ?_
      refine a_if_lt (pc := 13) (tgt := 21) dX6_letterOf_13 (by decide) (fun c_13 => ?_) (fun c_13 => ?_)
      · exact absurd c_13 (by decide)
      · refine a_iload_n (pc := 16) dX6_letterOf_16 rfl rfl ?_
        refine a_iconst (pc := 17) (v := 3) dX6_letterOf_17 (by decide) ?_
        refine a_icmp_le (pc := 18) (tgt := 23) dX6_letterOf_18 (by decide) (fun c_18 => ?_) (fun c_18 => ?_)
        · refine a_aload_n (pc := 23) dX6_letterOf_23 rfl rfl ?_
          refine a_getr (pc := 24) fl_X6_16 (by assumption) (by decide) (by rfl) dX6_letterOf_24 ?_
          refine a_getr (pc := 27) fl_X6_70 (by assumption) (by decide) (by rfl) dX6_letterOf_27 ?_
          refine a_iload_n (pc := 30) dX6_letterOf_30 rfl rfl ?_
          refine a_aald2 (pc := 31)  (by assumption) rfl (by omega) (by decide) (all_at (by omega)) dX6_letterOf_31 ?_
          refine a_astore (pc := 32) (al' := [some (.ref _), some (.int _), some (.int _), some (.int _), some (.ref _)]) dX6_letterOf_32 (by decide) rfl rfl ?_
          refine a_iload_n (pc := 34) dX6_letterOf_34 rfl rfl ?_
          refine a_aload (pc := 35) dX6_letterOf_35 rfl ?_
          refine a_getr (pc := 37) fl_X6_74 (by assumption) (by decide) (by rfl) dX6_letterOf_37 ?_
          refine a_geti (pc := 40) fl_X6_80 (by assumption) (by decide) (by rfl) dX6_letterOf_40 ?_
          refine a_top (y := nI s) hs ?_
          refine a_icmp_lt (pc := 43) (tgt := 49) dX6_letterOf_43 (by decide) (fun c_43 => ?_) (fun c_43 => ?_)
          · refine a_iload_n (pc := 49) dX6_letterOf_49 rfl rfl ?_
            refine a_tableIn (pc := 50) (off := 48) (tgt := 98) dX6_letterOf_50 (by decide) (by decide) (by decide) (by decide) ?_
            refine a_aload_n (pc := 98) dX6_letterOf_98 rfl rfl ?_
            refine a_getr (pc := 99) fl_X6_16 (by assumption) (by decide) (by rfl) dX6_letterOf_99 ?_
            refine a_aload (pc := 102) dX6_letterOf_102 rfl ?_
            refine a_getr (pc := 104) fl_X6_74 (by assumption) (by decide) (by rfl) dX6_letterOf_104 ?_
            refine a_getr (pc := 107) fl_X6_169 (by assumption) (by decide) (by rfl) dX6_letterOf_107 ?_
            refine a_iload_n (pc := 110) dX6_letterOf_110 rfl rfl ?_
            refine a_iald (pc := 111)  (by assumption) rfl (by omega) (by decide) dX6_letterOf_111 ?_
            refine a_callI1 (pc := 112) ck_X6_171 ⟨(Nat.le_of_ble_eq_true rfl), (Nat.le_of_ble_eq_true rfl)⟩ (by assumption) (by decide) (Nat.le_of_ble_eq_true rfl) dX6_letterOf_112 rfl (c_X2_isAsked net_2) ?_
            rintro r u ⟨rfl, rfl⟩
            refine a_if_eq (pc := 115) (tgt := 122) dX6_letterOf_115 (by decide) (fun c_115 => ?_) (fun c_115 => ?_)
            · refine a_iconst (pc := 122) (v := 0) dX6_letterOf_122 (by decide) ?_
              refine a_iret (pc := 123) rfl dX6_letterOf_123 ?_
              split at c_115 <;> simp_all
            · refine a_iconst (pc := 118) (v := 1) dX6_letterOf_118 (by decide) ?_
              refine a_goto (pc := 119) (tgt := 123) dX6_letterOf_119 (by decide) ?_
              refine a_iret (pc := 123) rfl dX6_letterOf_123 ?_
              split at c_115 <;> simp_all
          · exact absurd (nI_lt hks (by omega)) c_43
        · exact absurd c_18 (by decide)

set_option maxHeartbeats 4000000 in
set_option maxRecDepth 100000 in
theorem c_X7_letterOf2 {ν : Mem} {i k s N : Nat} (h0 : ν 0 2 = nI N) (hN : N ≤ 6) (hiN : i < N) (hk : k < 2 ^ 31) (hs : ν 2 (70 * i + 8) = nI s) (hs6 : s ≤ 6) (hks : k < s) : Con shM mX7_letterOf [.ref 0, .int (nI i), .int (nI k), .int 2] ν (fun r u => r = (if ν 2 (70 * i + 9 + 2 * k + 1) < ν 0 5 then 0 else 1) ∧ ν = u) := by
  have m0 : shM[0]? = some (7, 18, [none, some 1, none, none, none, none, none, some 2, some 3, none, none, some 4, none, none, some 5, some 6, some 7, some 8]) := rfl
  have m1 : shM[1]? = some (100, 200, []) := rfl
  have m2 : shM[2]? = some (100, 1320, []) := rfl
  have m3 : shM[3]? = some (100, 1760, []) := rfl
  have m4 : shM[4]? = some (100, 4, []) := rfl
  have m5 : shM[5]? = some (100, 6, []) := rfl
  have m6 : shM[6]? = some (100, 6, []) := rfl
  have m7 : shM[7]? = some (100, 6, []) := rfl
  have m8 : shM[8]? = some (100, 6, []) := rfl
  refine Con.ofAW (al0 := [some (.ref 0), some (.int (nI i)), some (.int (nI k)), some (.int 2), none, none]) (by decide) rfl (Nat.le_of_ble_eq_true rfl) rfl ?_
  refine a_aload_n (pc := 0) dX7_letterOf_0 rfl rfl ?_
  refine a_iload_n (pc := 1) dX7_letterOf_1 rfl rfl ?_
  refine a_callI1 (pc := 2) ck_X7_175 ⟨(Nat.le_of_ble_eq_true rfl), (Nat.le_of_ble_eq_true rfl)⟩ (by assumption) (by decide) (Nat.le_of_ble_eq_true rfl) dX7_letterOf_2 rfl (c_X7_isStation h0 (by omega) (by omega)) ?_
  rintro r u ⟨hr, rfl⟩
  have hr1 : r = 1 := by
    rcases hr with q | q
    · exact q.1
    · exact absurd ⟨i, hiN, rfl⟩ q.2
  subst hr1
  refine a_if_eq (pc := 5) (tgt := 21) dX7_letterOf_5 (by decide) (fun c_5 => ?_) (fun c_5 => ?_)
  · exact absurd c_5 (by decide)
  · refine a_iload_n (pc := 8) dX7_letterOf_8 rfl rfl ?_
    refine a_if_lt (pc := 9) (tgt := 21) dX7_letterOf_9 (by decide) (fun c_9 => ?_) (fun c_9 => ?_)
    · exact absurd c_9 (nI_pos hk)
    · refine a_iload_n (pc := 12) dX7_letterOf_12 rfl rfl ?_
      refine a_iconst (pc := 13) (v := 0) dX7_letterOf_13 (by decide) ?_
      refine a_iconst (pc := 14) (v := 3) dX7_letterOf_14 (by decide) ?_
      refine a_callS3 (pc := 15) cs_X7_94 ⟨(Nat.le_of_ble_eq_true rfl), (Nat.le_of_ble_eq_true rfl)⟩ (Nat.le_of_ble_eq_true rfl) dX7_letterOf_15 rfl c_X7_isIn ?_
      rintro r u ⟨hr, rfl⟩
      have hr1 : r = 1 := by
        rcases hr with q | q
        · exact q.1
        · exact absurd q.2 (by decide)
      subst hr1
      refine a_if_ne (pc := 18) (tgt := 23) dX7_letterOf_18 (by decide) (fun c_18 => ?_) (fun c_18 => ?_)
      · refine a_iconst (pc := 23) (v := 0) dX7_letterOf_23 (by decide) ?_
        refine a_iload_n (pc := 24) dX7_letterOf_24 rfl rfl ?_
        refine a_callS2 (pc := 25) cs_X7_52 ⟨(Nat.le_of_ble_eq_true rfl), (Nat.le_of_ble_eq_true rfl)⟩ (Nat.le_of_ble_eq_true rfl) dX7_letterOf_25 rfl (c_X7_at (r := 0)) ?_
        rintro r_ u ⟨rfl, rfl⟩
        refine a_istore (pc := 28) (al' := [some (.ref _), some (.int _), some (.int _), some (.int _), some (.int _), none]) dX7_letterOf_28 (by decide) rfl rfl ?_
        refine a_iload_n (pc := 30) dX7_letterOf_30 rfl rfl ?_
        refine a_aload_n (pc := 31) dX7_letterOf_31 rfl rfl ?_
        refine a_getr (pc := 32) fl_X7_13 (by assumption) (by decide) (by rfl) dX7_letterOf_32 ?_
        refine a_iload (pc := 35) dX7_letterOf_35 rfl ?_
        refine a_bipush (pc := 37) (v := 8) dX7_letterOf_37 (by decide) ?_
        refine a_iaddN (pc := 39) (a := _) (b := 8) rfl rfl dX7_letterOf_39 ?_
        refine a_iald (pc := 40)  (by assumption) rfl (by omega) (by decide) dX7_letterOf_40 ?_
        refine a_top (y := nI s) (by simpa using hs) ?_
        refine a_icmp_lt (pc := 41) (tgt := 47) dX7_letterOf_41 (by decide) (fun c_41 => ?_) (fun c_41 => ?_)
        · refine a_aload_n (pc := 47) dX7_letterOf_47 rfl rfl ?_
          refine a_getr (pc := 48) fl_X7_13 (by assumption) (by decide) (by rfl) dX7_letterOf_48 ?_
          refine a_iload (pc := 51) dX7_letterOf_51 rfl ?_
          refine a_bipush (pc := 53) (v := 9) dX7_letterOf_53 (by decide) ?_
          refine a_iaddN (pc := 55) (a := _) (b := 9) rfl rfl dX7_letterOf_55 ?_
          refine a_iconst (pc := 56) (v := 2) dX7_letterOf_56 (by decide) ?_
          refine a_iload_n (pc := 57) dX7_letterOf_57 rfl rfl ?_
          refine a_imulN (pc := 58) (a := 2) (b := _) rfl rfl dX7_letterOf_58 ?_
          refine a_iaddN (pc := 59) (a := _) (b := _) rfl rfl dX7_letterOf_59 ?_
          refine a_iconst (pc := 60) (v := 1) dX7_letterOf_60 (by decide) ?_
          refine a_iaddN (pc := 61) (a := _) (b := 1) rfl rfl dX7_letterOf_61 ?_
          refine a_iald (pc := 62)  (by assumption) rfl (by omega) (by decide) dX7_letterOf_62 ?_
          refine a_istore (pc := 63) (al' := [some (.ref _), some (.int _), some (.int _), some (.int _), some (.int _), some (.int _)]) dX7_letterOf_63 (by decide) rfl rfl ?_
          refine a_iload_n (pc := 65) dX7_letterOf_65 rfl rfl ?_
          refine a_tableIn (pc := 66) (off := 44) (tgt := 110) dX7_letterOf_66 (by decide) (by decide) (by decide) (by decide) ?_
          refine a_iload (pc := 110) dX7_letterOf_110 rfl ?_
          refine a_aload_n (pc := 112) dX7_letterOf_112 rfl rfl ?_
          refine a_geti (pc := 113) fl_X7_65 (by assumption) (by decide) (by rfl) dX7_letterOf_113 ?_
          refine a_icmp_lt (pc := 116) (tgt := 123) dX7_letterOf_116 (by decide) (fun c_116 => ?_) (fun c_116 => ?_)
          · refine a_iconst (pc := 123) (v := 0) dX7_letterOf_123 (by decide) ?_
            refine a_iret (pc := 124) rfl dX7_letterOf_124 ?_
            simp_all
          · refine a_iconst (pc := 119) (v := 1) dX7_letterOf_119 (by decide) ?_
            refine a_goto (pc := 120) (tgt := 124) dX7_letterOf_120 (by decide) ?_
            refine a_iret (pc := 124) rfl dX7_letterOf_124 ?_
            simp_all
        · exact absurd (nI_lt hks (by omega)) c_41
      · exact absurd c_18 (by decide)

set_option maxHeartbeats 4000000 in
set_option maxRecDepth 100000 in
theorem c_X6_letterOf3 {μ : Mem} {i k s N : Nat} (h0 : μ 2 0 = nI N) (hN : N ≤ 6) (hiN : i < N) (hk : k < 2 ^ 31) (hs : μ (stA 2 i + 1) 0 = nI s) (hs6 : s ≤ 6) (hks : k < s) : Con shC mX6_letterOf [.ref 0, .int (nI i), .int (nI k), .int 3] μ (fun r u => r = (if k = 0 then μ (stA 2 i) 11 else 0) ∧ μ = u) := by
  have z0 : shC[0]? = some (6, 8, [some 1, none, some 2, some 53, some 104, some 106, none, none]) := rfl
  have hn := net_2
  obtain ⟨hn0, hn1, hn2, hnS⟩ := id net_2
  have hi : i < 6 := by omega
  have ws := hnS i hi
  have w0 : shC[(stA 2 i)]? = _ := ws.1
  have w1 : shC[(stA 2 i) + 1]? = some (0, 3, [none, some ((stA 2 i) + 2), some ((stA 2 i) + 3)]) := ws.2.1.1
  have w2 : shC[(stA 2 i) + 2]? = some (100, 6, []) := ws.2.1.2.1
  have w3 : shC[(stA 2 i) + 3]? = some (100, 6, []) := ws.2.1.2.2
  have w4 : shC[(stA 2 i) + 4]? = some (1, 2, [none, some ((stA 2 i) + 5)]) := ws.2.2.1.1
  have w5 : shC[(stA 2 i) + 5]? = some (100, 24, []) := ws.2.2.1.2
  have w6 : shC[(stA 2 i) + 6]? = some (4, 4, [none, none, none, none]) := ws.2.2.2.1
  have w7 : shC[(stA 2 i) + 7]? = some (4, 4, [none, none, none, none]) := ws.2.2.2.2
  refine Con.ofAW (al0 := [some (.ref 0), some (.int (nI i)), some (.int (nI k)), some (.int 3), none]) (by decide) rfl (Nat.le_of_ble_eq_true rfl) rfl ?_
  refine a_aload_n (pc := 0) dX6_letterOf_0 rfl rfl ?_
  refine a_iload_n (pc := 1) dX6_letterOf_1 rfl rfl ?_
  refine a_callI1 (pc := 2) ck_X6_129 ⟨(Nat.le_of_ble_eq_true rfl), (Nat.le_of_ble_eq_true rfl)⟩ (by assumption) (by decide) (Nat.le_of_ble_eq_true rfl) dX6_letterOf_2 rfl (c_X6_isStation h0 (by omega)) ?_
  rintro r u ⟨hr, rfl⟩
  have hr1 : r = 1 := by
    rcases hr with q | q
    · exact q.1
    · exact absurd ⟨i, hiN, rfl⟩ q.2
  subst hr1
  refine a_if_eq (pc := 5) (tgt := 21) dX6_letterOf_5 (by decide) (fun c_5 => ?_) (fun c_5 => ?_)
  · exact absurd c_5 (by decide)
  · refine a_iload_n (pc := 8) dX6_letterOf_8 rfl rfl ?_
    refine a_if_lt (pc := 9) (tgt := 21) dX6_letterOf_9 (by decide) (fun c_9 => ?_) (fun c_9 => ?_)
    · exact absurd c_9 (nI_pos hk)
    · refine a_iload_n (pc := 12) dX6_letterOf_12 rfl rfl ?_
      refine a_if_lt (pc := 13) (tgt := 21) dX6_letterOf_13 (by decide) (fun c_13 => ?_) (fun c_13 => ?_)
      · exact absurd c_13 (by decide)
      · refine a_iload_n (pc := 16) dX6_letterOf_16 rfl rfl ?_
        refine a_iconst (pc := 17) (v := 3) dX6_letterOf_17 (by decide) ?_
        refine a_icmp_le (pc := 18) (tgt := 23) dX6_letterOf_18 (by decide) (fun c_18 => ?_) (fun c_18 => ?_)
        · refine a_aload_n (pc := 23) dX6_letterOf_23 rfl rfl ?_
          refine a_getr (pc := 24) fl_X6_16 (by assumption) (by decide) (by rfl) dX6_letterOf_24 ?_
          refine a_getr (pc := 27) fl_X6_70 (by assumption) (by decide) (by rfl) dX6_letterOf_27 ?_
          refine a_iload_n (pc := 30) dX6_letterOf_30 rfl rfl ?_
          refine a_aald2 (pc := 31)  (by assumption) rfl (by omega) (by decide) (all_at (by omega)) dX6_letterOf_31 ?_
          refine a_astore (pc := 32) (al' := [some (.ref _), some (.int _), some (.int _), some (.int _), some (.ref _)]) dX6_letterOf_32 (by decide) rfl rfl ?_
          refine a_iload_n (pc := 34) dX6_letterOf_34 rfl rfl ?_
          refine a_aload (pc := 35) dX6_letterOf_35 rfl ?_
          refine a_getr (pc := 37) fl_X6_74 (by assumption) (by decide) (by rfl) dX6_letterOf_37 ?_
          refine a_geti (pc := 40) fl_X6_80 (by assumption) (by decide) (by rfl) dX6_letterOf_40 ?_
          refine a_top (y := nI s) hs ?_
          refine a_icmp_lt (pc := 43) (tgt := 49) dX6_letterOf_43 (by decide) (fun c_43 => ?_) (fun c_43 => ?_)
          · refine a_iload_n (pc := 49) dX6_letterOf_49 rfl rfl ?_
            refine a_tableOut (pc := 50) (tgt := 124) dX6_letterOf_50 (by decide) (by decide) ?_
            refine a_iload_n (pc := 124) dX6_letterOf_124 rfl rfl ?_
            refine a_if_ne (pc := 125) (tgt := 136) dX6_letterOf_125 (by decide) (fun c_125 => ?_) (fun c_125 => ?_)
            · refine a_iconst (pc := 136) (v := 0) dX6_letterOf_136 (by decide) ?_
              refine a_iret (pc := 137) rfl dX6_letterOf_137 ?_
              first | (have e : k = 0 := Nat.eq_zero_of_not_pos (fun q => absurd c_125 (by first | exact not_not_intro rfl | exact nI_ne (b := 0) (by omega) (by omega) (by omega))); subst e; exact ⟨rfl, rfl⟩) | (have e : ¬ k = 0 := fun q => absurd c_125 (by subst q; exact not_not_intro rfl); rw [if_neg e]; exact ⟨rfl, rfl⟩)
            · refine a_aload (pc := 128) dX6_letterOf_128 rfl ?_
              refine a_geti (pc := 130) fl_X6_174 (by assumption) (by decide) (by rfl) dX6_letterOf_130 ?_
              refine a_goto (pc := 133) (tgt := 137) dX6_letterOf_133 (by decide) ?_
              refine a_iret (pc := 137) rfl dX6_letterOf_137 ?_
              first | (have e : k = 0 := Nat.eq_zero_of_not_pos (fun q => absurd c_125 (by first | exact not_not_intro rfl | exact nI_ne (b := 0) (by omega) (by omega) (by omega))); subst e; exact ⟨rfl, rfl⟩) | (have e : ¬ k = 0 := fun q => absurd c_125 (by subst q; exact not_not_intro rfl); rw [if_neg e]; exact ⟨rfl, rfl⟩)
          · exact absurd (nI_lt hks (by omega)) c_43
        · exact absurd c_18 (by decide)

set_option maxHeartbeats 4000000 in
set_option maxRecDepth 100000 in
theorem c_X7_letterOf3 {ν : Mem} {i k s N : Nat} (h0 : ν 0 2 = nI N) (hN : N ≤ 6) (hiN : i < N) (hk : k < 2 ^ 31) (hs : ν 2 (70 * i + 8) = nI s) (hs6 : s ≤ 6) (hks : k < s) : Con shM mX7_letterOf [.ref 0, .int (nI i), .int (nI k), .int 3] ν (fun r u => r = (if k = 0 then ν 2 (70 * i + 28) else 0) ∧ ν = u) := by
  have m0 : shM[0]? = some (7, 18, [none, some 1, none, none, none, none, none, some 2, some 3, none, none, some 4, none, none, some 5, some 6, some 7, some 8]) := rfl
  have m1 : shM[1]? = some (100, 200, []) := rfl
  have m2 : shM[2]? = some (100, 1320, []) := rfl
  have m3 : shM[3]? = some (100, 1760, []) := rfl
  have m4 : shM[4]? = some (100, 4, []) := rfl
  have m5 : shM[5]? = some (100, 6, []) := rfl
  have m6 : shM[6]? = some (100, 6, []) := rfl
  have m7 : shM[7]? = some (100, 6, []) := rfl
  have m8 : shM[8]? = some (100, 6, []) := rfl
  refine Con.ofAW (al0 := [some (.ref 0), some (.int (nI i)), some (.int (nI k)), some (.int 3), none, none]) (by decide) rfl (Nat.le_of_ble_eq_true rfl) rfl ?_
  refine a_aload_n (pc := 0) dX7_letterOf_0 rfl rfl ?_
  refine a_iload_n (pc := 1) dX7_letterOf_1 rfl rfl ?_
  refine a_callI1 (pc := 2) ck_X7_175 ⟨(Nat.le_of_ble_eq_true rfl), (Nat.le_of_ble_eq_true rfl)⟩ (by assumption) (by decide) (Nat.le_of_ble_eq_true rfl) dX7_letterOf_2 rfl (c_X7_isStation h0 (by omega) (by omega)) ?_
  rintro r u ⟨hr, rfl⟩
  have hr1 : r = 1 := by
    rcases hr with q | q
    · exact q.1
    · exact absurd ⟨i, hiN, rfl⟩ q.2
  subst hr1
  refine a_if_eq (pc := 5) (tgt := 21) dX7_letterOf_5 (by decide) (fun c_5 => ?_) (fun c_5 => ?_)
  · exact absurd c_5 (by decide)
  · refine a_iload_n (pc := 8) dX7_letterOf_8 rfl rfl ?_
    refine a_if_lt (pc := 9) (tgt := 21) dX7_letterOf_9 (by decide) (fun c_9 => ?_) (fun c_9 => ?_)
    · exact absurd c_9 (nI_pos hk)
    · refine a_iload_n (pc := 12) dX7_letterOf_12 rfl rfl ?_
      refine a_iconst (pc := 13) (v := 0) dX7_letterOf_13 (by decide) ?_
      refine a_iconst (pc := 14) (v := 3) dX7_letterOf_14 (by decide) ?_
      refine a_callS3 (pc := 15) cs_X7_94 ⟨(Nat.le_of_ble_eq_true rfl), (Nat.le_of_ble_eq_true rfl)⟩ (Nat.le_of_ble_eq_true rfl) dX7_letterOf_15 rfl c_X7_isIn ?_
      rintro r u ⟨hr, rfl⟩
      have hr1 : r = 1 := by
        rcases hr with q | q
        · exact q.1
        · exact absurd q.2 (by decide)
      subst hr1
      refine a_if_ne (pc := 18) (tgt := 23) dX7_letterOf_18 (by decide) (fun c_18 => ?_) (fun c_18 => ?_)
      · refine a_iconst (pc := 23) (v := 0) dX7_letterOf_23 (by decide) ?_
        refine a_iload_n (pc := 24) dX7_letterOf_24 rfl rfl ?_
        refine a_callS2 (pc := 25) cs_X7_52 ⟨(Nat.le_of_ble_eq_true rfl), (Nat.le_of_ble_eq_true rfl)⟩ (Nat.le_of_ble_eq_true rfl) dX7_letterOf_25 rfl (c_X7_at (r := 0)) ?_
        rintro r_ u ⟨rfl, rfl⟩
        refine a_istore (pc := 28) (al' := [some (.ref _), some (.int _), some (.int _), some (.int _), some (.int _), none]) dX7_letterOf_28 (by decide) rfl rfl ?_
        refine a_iload_n (pc := 30) dX7_letterOf_30 rfl rfl ?_
        refine a_aload_n (pc := 31) dX7_letterOf_31 rfl rfl ?_
        refine a_getr (pc := 32) fl_X7_13 (by assumption) (by decide) (by rfl) dX7_letterOf_32 ?_
        refine a_iload (pc := 35) dX7_letterOf_35 rfl ?_
        refine a_bipush (pc := 37) (v := 8) dX7_letterOf_37 (by decide) ?_
        refine a_iaddN (pc := 39) (a := _) (b := 8) rfl rfl dX7_letterOf_39 ?_
        refine a_iald (pc := 40)  (by assumption) rfl (by omega) (by decide) dX7_letterOf_40 ?_
        refine a_top (y := nI s) (by simpa using hs) ?_
        refine a_icmp_lt (pc := 41) (tgt := 47) dX7_letterOf_41 (by decide) (fun c_41 => ?_) (fun c_41 => ?_)
        · refine a_aload_n (pc := 47) dX7_letterOf_47 rfl rfl ?_
          refine a_getr (pc := 48) fl_X7_13 (by assumption) (by decide) (by rfl) dX7_letterOf_48 ?_
          refine a_iload (pc := 51) dX7_letterOf_51 rfl ?_
          refine a_bipush (pc := 53) (v := 9) dX7_letterOf_53 (by decide) ?_
          refine a_iaddN (pc := 55) (a := _) (b := 9) rfl rfl dX7_letterOf_55 ?_
          refine a_iconst (pc := 56) (v := 2) dX7_letterOf_56 (by decide) ?_
          refine a_iload_n (pc := 57) dX7_letterOf_57 rfl rfl ?_
          refine a_imulN (pc := 58) (a := 2) (b := _) rfl rfl dX7_letterOf_58 ?_
          refine a_iaddN (pc := 59) (a := _) (b := _) rfl rfl dX7_letterOf_59 ?_
          refine a_iconst (pc := 60) (v := 1) dX7_letterOf_60 (by decide) ?_
          refine a_iaddN (pc := 61) (a := _) (b := 1) rfl rfl dX7_letterOf_61 ?_
          refine a_iald (pc := 62)  (by assumption) rfl (by omega) (by decide) dX7_letterOf_62 ?_
          refine a_istore (pc := 63) (al' := [some (.ref _), some (.int _), some (.int _), some (.int _), some (.int _), some (.int _)]) dX7_letterOf_63 (by decide) rfl rfl ?_
          refine a_iload_n (pc := 65) dX7_letterOf_65 rfl rfl ?_
          refine a_tableOut (pc := 66) (tgt := 125) dX7_letterOf_66 (by decide) (by decide) ?_
          refine a_iload_n (pc := 125) dX7_letterOf_125 rfl rfl ?_
          refine a_if_ne (pc := 126) (tgt := 142) dX7_letterOf_126 (by decide) (fun c_126 => ?_) (fun c_126 => ?_)
          · refine a_iconst (pc := 142) (v := 0) dX7_letterOf_142 (by decide) ?_
            refine a_iret (pc := 143) rfl dX7_letterOf_143 ?_
            first | (have e : k = 0 := Nat.eq_zero_of_not_pos (fun q => absurd c_126 (by first | exact not_not_intro rfl | exact nI_ne (b := 0) (by omega) (by omega) (by omega))); subst e; simp) | (have e : ¬ k = 0 := fun q => absurd c_126 (by subst q; exact not_not_intro rfl); rw [if_neg e]; exact ⟨rfl, rfl⟩)
          · refine a_aload_n (pc := 129) dX7_letterOf_129 rfl rfl ?_
            refine a_getr (pc := 130) fl_X7_13 (by assumption) (by decide) (by rfl) dX7_letterOf_130 ?_
            refine a_iload (pc := 133) dX7_letterOf_133 rfl ?_
            refine a_bipush (pc := 135) (v := 28) dX7_letterOf_135 (by decide) ?_
            refine a_iaddN (pc := 137) (a := _) (b := 28) rfl rfl dX7_letterOf_137 ?_
            refine a_iald (pc := 138)  (by assumption) rfl (by omega) (by decide) dX7_letterOf_138 ?_
            refine a_goto (pc := 139) (tgt := 143) dX7_letterOf_139 (by decide) ?_
            refine a_iret (pc := 143) rfl dX7_letterOf_143 ?_
            first | (have e : k = 0 := Nat.eq_zero_of_not_pos (fun q => absurd c_126 (by first | exact not_not_intro rfl | exact nI_ne (b := 0) (by omega) (by omega) (by omega))); subst e; simp) | (have e : ¬ k = 0 := fun q => absurd c_126 (by subst q; exact not_not_intro rfl); rw [if_neg e]; exact ⟨rfl, rfl⟩)
        · exact absurd (nI_lt hks (by omega)) c_41
      · exact absurd c_18 (by decide)

set_option maxHeartbeats 4000000 in
set_option maxRecDepth 100000 in
theorem c_X1_read {μ : Mem} {o : Nat} {k w h : Nat} (hm : isMem o) (hk : k < 2 ^ 31) (hw : w ≤ 3) (hh : μ o 0 = nI h) (h6 : h ≤ 6) : Con shC mX1_read [.ref o, .int (nI k), .int (nI w)] μ (fun r u => r = (if k < h then μ (o + 1) (4 * k + w) else -4) ∧ μ = u) := by
  obtain ⟨w4, w5⟩ := hm
  refine Con.ofAW (al0 := [some (.ref o), some (.int (nI k)), some (.int (nI w))]) (by decide) rfl (Nat.le_of_ble_eq_true rfl) rfl ?_
  refine a_iload_n (pc := 0) dX1_read_0 rfl rfl ?_
  refine a_if_lt (pc := 1) (tgt := 21) dX1_read_1 (by decide) (fun c_1 => ?_) (fun c_1 => ?_)
  · exact absurd c_1 (nI_pos hk)
  · refine a_iload_n (pc := 4) dX1_read_4 rfl rfl ?_
    refine a_aload_n (pc := 5) dX1_read_5 rfl rfl ?_
    refine a_geti (pc := 6) fl_X1_15 (by assumption) (by decide) (by rfl) dX1_read_6 ?_
    refine a_top (y := nI h) hh ?_
    refine a_icmp_ge (pc := 9) (tgt := 21) dX1_read_9 (by decide) (fun c_9 => ?_) (fun c_9 => ?_)
    · refine a_bipush (pc := 21) (v := -4) dX1_read_21 (by decide) ?_
      refine a_iret (pc := 23) rfl dX1_read_23 ?_
      first
      | (have q := lt_of_not_ge' hk (by omega) c_9; rw [if_pos q]; exact ⟨rfl, rfl⟩)
      | (have q : ¬ k < h := fun q => absurd c_9 (nI_ge q (by omega)); rw [if_neg q]; exact ⟨rfl, rfl⟩)
    · refine a_iload_n (pc := 12) dX1_read_12 rfl rfl ?_
      refine a_if_lt (pc := 13) (tgt := 21) dX1_read_13 (by decide) (fun c_13 => ?_) (fun c_13 => ?_)
      · exact absurd c_13 (nI_pos (by omega))
      · refine a_iload_n (pc := 16) dX1_read_16 rfl rfl ?_
        refine a_iconst (pc := 17) (v := 4) dX1_read_17 (by decide) ?_
        refine a_icmp_lt (pc := 18) (tgt := 24) dX1_read_18 (by decide) (fun c_18 => ?_) (fun c_18 => ?_)
        · refine a_aload_n (pc := 24) dX1_read_24 rfl rfl ?_
          refine a_getr (pc := 25) fl_X1_11 (by assumption) (by decide) (by rfl) dX1_read_25 ?_
          refine a_iload_n (pc := 28) dX1_read_28 rfl rfl ?_
          refine a_iconst (pc := 29) (v := 4) dX1_read_29 (by decide) ?_
          refine a_imulN (pc := 30) (a := _) (b := 4) rfl rfl dX1_read_30 ?_
          refine a_iload_n (pc := 31) dX1_read_31 rfl rfl ?_
          refine a_iaddN (pc := 32) (a := _) (b := _) rfl rfl dX1_read_32 ?_
          refine a_iald (pc := 33) (j := (4 * k + w)) (by assumption) (by rw [Nat.mul_comm]) (by have := lt_of_not_ge' hk (by omega) c_9; omega) (by decide) dX1_read_33 ?_
          refine a_iret (pc := 34) rfl dX1_read_34 ?_
          first
          | (have q := lt_of_not_ge' hk (by omega) c_9; rw [if_pos q]; exact ⟨rfl, rfl⟩)
          | (have q : ¬ k < h := fun q => absurd c_9 (nI_ge q (by omega)); rw [if_neg q]; exact ⟨rfl, rfl⟩)
        · exact absurd (nI_lt (b := 4) (by omega) (by omega)) c_18

set_option maxHeartbeats 4000000 in
set_option maxRecDepth 100000 in
theorem c_X6_overheard {μ : Mem} {w h i k N : Nat} (h0 : μ 2 0 = nI N) (hN : N ≤ 6) (hiN : i < N) (hk : k < 2 ^ 31) (hw : w ≤ 3) (hh : μ (stA 2 i + 4) 0 = nI h) (h6 : h ≤ 6) : Con shC mX6_overheard [.ref 0, .int (nI i), .int (nI k), .int (nI w)] μ (fun r u => r = (if k < h then μ (stA 2 i + 5) (4 * k + w) else -4) ∧ μ = u) := by
  have z0 : shC[0]? = some (6, 8, [some 1, none, some 2, some 53, some 104, some 106, none, none]) := rfl
  have hn := net_2
  obtain ⟨hn0, hn1, hn2, hnS⟩ := id net_2
  have hi : i < 6 := by omega
  have ws := hnS i hi
  have w0 : shC[(stA 2 i)]? = _ := ws.1
  have w1 : shC[(stA 2 i) + 1]? = some (0, 3, [none, some ((stA 2 i) + 2), some ((stA 2 i) + 3)]) := ws.2.1.1
  have w2 : shC[(stA 2 i) + 2]? = some (100, 6, []) := ws.2.1.2.1
  have w3 : shC[(stA 2 i) + 3]? = some (100, 6, []) := ws.2.1.2.2
  have w4 : shC[(stA 2 i) + 4]? = some (1, 2, [none, some ((stA 2 i) + 5)]) := ws.2.2.1.1
  have w5 : shC[(stA 2 i) + 5]? = some (100, 24, []) := ws.2.2.1.2
  have w6 : shC[(stA 2 i) + 6]? = some (4, 4, [none, none, none, none]) := ws.2.2.2.1
  have w7 : shC[(stA 2 i) + 7]? = some (4, 4, [none, none, none, none]) := ws.2.2.2.2
  refine Con.ofAW (al0 := [some (.ref 0), some (.int (nI i)), some (.int (nI k)), some (.int (nI w))]) (by decide) rfl (Nat.le_of_ble_eq_true rfl) rfl ?_
  refine a_aload_n (pc := 0) dX6_overheard_0 rfl rfl ?_
  refine a_iload_n (pc := 1) dX6_overheard_1 rfl rfl ?_
  refine a_callI1 (pc := 2) ck_X6_129 ⟨(Nat.le_of_ble_eq_true rfl), (Nat.le_of_ble_eq_true rfl)⟩ (by assumption) (by decide) (Nat.le_of_ble_eq_true rfl) dX6_overheard_2 rfl (c_X6_isStation h0 (by omega)) ?_
  rintro r u ⟨hr, rfl⟩
  have hr1 : r = 1 := by
    rcases hr with q | q
    · exact q.1
    · exact absurd ⟨i, hiN, rfl⟩ q.2
  subst hr1
  refine a_if_eq (pc := 5) (tgt := 21) dX6_overheard_5 (by decide) (fun c_5 => ?_) (fun c_5 => ?_)
  · exact absurd c_5 (by decide)
  · refine a_iload_n (pc := 8) dX6_overheard_8 rfl rfl ?_
    refine a_if_lt (pc := 9) (tgt := 21) dX6_overheard_9 (by decide) (fun c_9 => ?_) (fun c_9 => ?_)
    · exact absurd c_9 (nI_pos hk)
    · refine a_iload_n (pc := 12) dX6_overheard_12 rfl rfl ?_
      refine a_if_lt (pc := 13) (tgt := 21) dX6_overheard_13 (by decide) (fun c_13 => ?_) (fun c_13 => ?_)
      · exact absurd c_13 (nI_pos (by omega))
      · refine a_iload_n (pc := 16) dX6_overheard_16 rfl rfl ?_
        refine a_iconst (pc := 17) (v := 3) dX6_overheard_17 (by decide) ?_
        refine a_icmp_le (pc := 18) (tgt := 23) dX6_overheard_18 (by decide) (fun c_18 => ?_) (fun c_18 => ?_)
        · refine a_aload_n (pc := 23) dX6_overheard_23 rfl rfl ?_
          refine a_getr (pc := 24) fl_X6_16 (by assumption) (by decide) (by rfl) dX6_overheard_24 ?_
          refine a_getr (pc := 27) fl_X6_70 (by assumption) (by decide) (by rfl) dX6_overheard_27 ?_
          refine a_iload_n (pc := 30) dX6_overheard_30 rfl rfl ?_
          refine a_aald2 (pc := 31)  (by assumption) rfl (by omega) (by decide) (all_at (by omega)) dX6_overheard_31 ?_
          refine a_getr (pc := 32) fl_X6_177 (by assumption) (by decide) (by rfl) dX6_overheard_32 ?_
          refine a_iload_n (pc := 35) dX6_overheard_35 rfl rfl ?_
          refine a_iload_n (pc := 36) dX6_overheard_36 rfl rfl ?_
          refine a_callI2 (pc := 37) ck_X6_181 ⟨(Nat.le_of_ble_eq_true rfl), (Nat.le_of_ble_eq_true rfl)⟩ (by assumption) (by decide) (Nat.le_of_ble_eq_true rfl) dX6_overheard_37 rfl (c_X1_read ⟨w4, w5⟩ hk hw hh h6) ?_
          rintro r u ⟨rfl, rfl⟩
          refine a_iret (pc := 40) rfl dX6_overheard_40 ?_
          exact ⟨rfl, rfl⟩
        · exact absurd (nI_le (b := 3) (by omega) (by omega)) c_18

set_option maxHeartbeats 4000000 in
set_option maxRecDepth 100000 in
theorem c_X7_overheard {ν : Mem} {w h i k N : Nat} (h0 : ν 0 2 = nI N) (hN : N ≤ 6) (hiN : i < N) (hk : k < 2 ^ 31) (hw : w ≤ 3) (hh : ν 2 (70 * i + 33) = nI h) (h6 : h ≤ 6) : Con shM mX7_overheard [.ref 0, .int (nI i), .int (nI k), .int (nI w)] ν (fun r u => r = (if k < h then ν 2 (70 * i + 34 + (4 * k + w)) else -4) ∧ ν = u) := by
  have m0 : shM[0]? = some (7, 18, [none, some 1, none, none, none, none, none, some 2, some 3, none, none, some 4, none, none, some 5, some 6, some 7, some 8]) := rfl
  have m1 : shM[1]? = some (100, 200, []) := rfl
  have m2 : shM[2]? = some (100, 1320, []) := rfl
  have m3 : shM[3]? = some (100, 1760, []) := rfl
  have m4 : shM[4]? = some (100, 4, []) := rfl
  have m5 : shM[5]? = some (100, 6, []) := rfl
  have m6 : shM[6]? = some (100, 6, []) := rfl
  have m7 : shM[7]? = some (100, 6, []) := rfl
  have m8 : shM[8]? = some (100, 6, []) := rfl
  refine Con.ofAW (al0 := [some (.ref 0), some (.int (nI i)), some (.int (nI k)), some (.int (nI w)), none]) (by decide) rfl (Nat.le_of_ble_eq_true rfl) rfl ?_
  refine a_aload_n (pc := 0) dX7_overheard_0 rfl rfl ?_
  refine a_iload_n (pc := 1) dX7_overheard_1 rfl rfl ?_
  refine a_callI1 (pc := 2) ck_X7_175 ⟨(Nat.le_of_ble_eq_true rfl), (Nat.le_of_ble_eq_true rfl)⟩ (by assumption) (by decide) (Nat.le_of_ble_eq_true rfl) dX7_overheard_2 rfl (c_X7_isStation h0 (by omega) (by omega)) ?_
  rintro r u ⟨hr, rfl⟩
  have hr1 : r = 1 := by
    rcases hr with q | q
    · exact q.1
    · exact absurd ⟨i, hiN, rfl⟩ q.2
  subst hr1
  refine a_if_eq (pc := 5) (tgt := 21) dX7_overheard_5 (by decide) (fun c_5 => ?_) (fun c_5 => ?_)
  · exact absurd c_5 (by decide)
  · refine a_iload_n (pc := 8) dX7_overheard_8 rfl rfl ?_
    refine a_if_lt (pc := 9) (tgt := 21) dX7_overheard_9 (by decide) (fun c_9 => ?_) (fun c_9 => ?_)
    · exact absurd c_9 (nI_pos hk)
    · refine a_iload_n (pc := 12) dX7_overheard_12 rfl rfl ?_
      refine a_iconst (pc := 13) (v := 0) dX7_overheard_13 (by decide) ?_
      refine a_iconst (pc := 14) (v := 3) dX7_overheard_14 (by decide) ?_
      refine a_callS3 (pc := 15) cs_X7_94 ⟨(Nat.le_of_ble_eq_true rfl), (Nat.le_of_ble_eq_true rfl)⟩ (Nat.le_of_ble_eq_true rfl) dX7_overheard_15 rfl c_X7_isIn ?_
      rintro r u ⟨hr, rfl⟩
      have hr1 : r = 1 := by
        rcases hr with q | q
        · exact q.1
        · rcases q.2 with q | q
          · exact absurd q (nI_pos (by omega))
          · exact absurd q (nI_nlt (a := 3) (by omega) (by omega))
      subst hr1
      refine a_if_ne (pc := 18) (tgt := 23) dX7_overheard_18 (by decide) (fun c_18 => ?_) (fun c_18 => ?_)
      · refine a_iconst (pc := 23) (v := 0) dX7_overheard_23 (by decide) ?_
        refine a_iload_n (pc := 24) dX7_overheard_24 rfl rfl ?_
        refine a_callS2 (pc := 25) cs_X7_52 ⟨(Nat.le_of_ble_eq_true rfl), (Nat.le_of_ble_eq_true rfl)⟩ (Nat.le_of_ble_eq_true rfl) dX7_overheard_25 rfl (c_X7_at (r := 0)) ?_
        rintro r_ u ⟨rfl, rfl⟩
        refine a_bipush (pc := 28) (v := 33) dX7_overheard_28 (by decide) ?_
        refine a_iaddN (pc := 30) (a := _) (b := 33) rfl rfl dX7_overheard_30 ?_
        refine a_istore (pc := 31) (al' := [some (.ref _), some (.int _), some (.int _), some (.int _), some (.int _)]) dX7_overheard_31 (by decide) rfl rfl ?_
        refine a_iload_n (pc := 33) dX7_overheard_33 rfl rfl ?_
        refine a_aload_n (pc := 34) dX7_overheard_34 rfl rfl ?_
        refine a_getr (pc := 35) fl_X7_13 (by assumption) (by decide) (by rfl) dX7_overheard_35 ?_
        refine a_iload (pc := 38) dX7_overheard_38 rfl ?_
        refine a_iald (pc := 40)  (by assumption) rfl (by omega) (by decide) dX7_overheard_40 ?_
        refine a_top (y := nI h) (by simpa using hh) ?_
        refine a_icmp_ge (pc := 41) (tgt := 62) dX7_overheard_41 (by decide) (fun c_41 => ?_) (fun c_41 => ?_)
        · refine a_bipush (pc := 62) (v := -4) dX7_overheard_62 (by decide) ?_
          refine a_iret (pc := 64) rfl dX7_overheard_64 ?_
          first
          | (have q := lt_of_not_ge' hk (by omega) c_41; rw [if_pos q]; refine ⟨?_, rfl⟩; congr 1; omega)
          | (have q : ¬ k < h := fun q => absurd c_41 (nI_ge q (by omega)); rw [if_neg q]; exact ⟨rfl, rfl⟩)
        · refine a_aload_n (pc := 44) dX7_overheard_44 rfl rfl ?_
          refine a_getr (pc := 45) fl_X7_13 (by assumption) (by decide) (by rfl) dX7_overheard_45 ?_
          refine a_iload (pc := 48) dX7_overheard_48 rfl ?_
          refine a_iconst (pc := 50) (v := 1) dX7_overheard_50 (by decide) ?_
          refine a_iaddN (pc := 51) (a := _) (b := 1) rfl rfl dX7_overheard_51 ?_
          refine a_iconst (pc := 52) (v := 4) dX7_overheard_52 (by decide) ?_
          refine a_iload_n (pc := 53) dX7_overheard_53 rfl rfl ?_
          refine a_imulN (pc := 54) (a := 4) (b := _) rfl rfl dX7_overheard_54 ?_
          refine a_iaddN (pc := 55) (a := _) (b := _) rfl rfl dX7_overheard_55 ?_
          refine a_iload_n (pc := 56) dX7_overheard_56 rfl rfl ?_
          refine a_iaddN (pc := 57) (a := _) (b := _) rfl rfl dX7_overheard_57 ?_
          refine a_iald (pc := 58)  (by assumption) rfl (by have := lt_of_not_ge' hk (by omega) c_41; omega) (by decide) dX7_overheard_58 ?_
          refine a_goto (pc := 59) (tgt := 64) dX7_overheard_59 (by decide) ?_
          refine a_iret (pc := 64) rfl dX7_overheard_64 ?_
          first
          | (have q := lt_of_not_ge' hk (by omega) c_41; rw [if_pos q]; refine ⟨?_, rfl⟩; congr 1; omega)
          | (have q : ¬ k < h := fun q => absurd c_41 (nI_ge q (by omega)); rw [if_neg q]; exact ⟨rfl, rfl⟩)
      · exact absurd c_18 (by decide)

set_option maxHeartbeats 4000000 in
set_option maxRecDepth 100000 in
theorem c_X6_pairX {μ : Mem} {N : Nat} {i j k w : Int32} (h0 : μ 2 0 = nI N) (hN : N ≤ 6) (h : ¬ (stnP i N ∧ stnP j N ∧ ¬ i = j)) : Con shC mX6_pair [.ref 0, .int i, .int j] μ (fun r u => r = -1 ∧ μ = u) := by
  have z0 : shC[0]? = some (6, 8, [some 1, none, some 2, some 53, some 104, some 106, none, none]) := rfl
  have hn := net_2
  obtain ⟨hn0, hn1, hn2, hnS⟩ := id hn
  refine Con.ofAW (al0 := [some (.ref 0), some (.int i), some (.int j)]) (by decide) rfl (Nat.le_of_ble_eq_true rfl) rfl ?_
  refine a_aload_n (pc := 0) dX6_pair_0 rfl rfl ?_
  refine a_iload_n (pc := 1) dX6_pair_1 rfl rfl ?_
  refine a_iload_n (pc := 2) dX6_pair_2 rfl rfl ?_
  refine a_callI2 (pc := 3) ck_X6_63 ⟨(Nat.le_of_ble_eq_true rfl), (Nat.le_of_ble_eq_true rfl)⟩ (by assumption) (by decide) (Nat.le_of_ble_eq_true rfl) dX6_pair_3 rfl (c_X6_isPair h0 (by omega)) ?_
  rintro r u ⟨hr, rfl⟩
  refine a_if_eq (pc := 6) (tgt := 21) dX6_pair_6 (by decide) (fun c_6 => ?_) (fun c_6 => ?_)
  · refine a_iconst (pc := 21) (v := -1) dX6_pair_21 (by decide) ?_
    refine a_iret (pc := 22) rfl dX6_pair_22 ?_
    exact ⟨rfl, rfl⟩
  · exfalso; simp_all

set_option maxHeartbeats 4000000 in
set_option maxRecDepth 100000 in
theorem c_X7_pairX {ν : Mem} {N : Nat} {i j k w : Int32} (h0 : ν 0 2 = nI N) (hN : N ≤ 6) (hN1 : 1 ≤ N) (h : ¬ (stnP i N ∧ stnP j N ∧ ¬ i = j)) : Con shM mX7_pair [.ref 0, .int i, .int j] ν (fun r u => r = -1 ∧ ν = u) := by
  have m0 : shM[0]? = some (7, 18, [none, some 1, none, none, none, none, none, some 2, some 3, none, none, some 4, none, none, some 5, some 6, some 7, some 8]) := rfl
  have m1 : shM[1]? = some (100, 200, []) := rfl
  have m2 : shM[2]? = some (100, 1320, []) := rfl
  have m3 : shM[3]? = some (100, 1760, []) := rfl
  have m4 : shM[4]? = some (100, 4, []) := rfl
  have m5 : shM[5]? = some (100, 6, []) := rfl
  have m6 : shM[6]? = some (100, 6, []) := rfl
  have m7 : shM[7]? = some (100, 6, []) := rfl
  have m8 : shM[8]? = some (100, 6, []) := rfl
  refine Con.ofAW (al0 := [some (.ref 0), some (.int i), some (.int j)]) (by decide) rfl (Nat.le_of_ble_eq_true rfl) rfl ?_
  refine a_aload_n (pc := 0) dX7_pair_0 rfl rfl ?_
  refine a_iload_n (pc := 1) dX7_pair_1 rfl rfl ?_
  refine a_iload_n (pc := 2) dX7_pair_2 rfl rfl ?_
  refine a_callI2 (pc := 3) ck_X7_178 ⟨(Nat.le_of_ble_eq_true rfl), (Nat.le_of_ble_eq_true rfl)⟩ (by assumption) (by decide) (Nat.le_of_ble_eq_true rfl) dX7_pair_3 rfl (c_X7_areTwo h0 (by omega) hN1) ?_
  rintro r u ⟨hr, rfl⟩
  refine a_if_eq (pc := 6) (tgt := 18) dX7_pair_6 (by decide) (fun c_6 => ?_) (fun c_6 => ?_)
  · refine a_iconst (pc := 18) (v := -1) dX7_pair_18 (by decide) ?_
    refine a_iret (pc := 19) rfl dX7_pair_19 ?_
    exact ⟨rfl, rfl⟩
  · exfalso; simp_all

set_option maxHeartbeats 4000000 in
set_option maxRecDepth 100000 in
theorem c_X6_pair {μ : Mem} {N i j : Nat} (h0 : μ 2 0 = nI N) (hN : N ≤ 6) (hi : i < N) (hj : j < N) (hij : i ≠ j) : Con shC mX6_pair [.ref 0, .int (nI i), .int (nI j)] μ (fun r u => r = nearF (μ (stA 2 i) 0) (μ (stA 2 j) 0) (nI j) ∧ μ = u) := by
  have z0 : shC[0]? = some (6, 8, [some 1, none, some 2, some 53, some 104, some 106, none, none]) := rfl
  have hn := net_2
  obtain ⟨hn0, hn1, hn2, hnS⟩ := id hn
  refine Con.ofAW (al0 := [some (.ref 0), some (.int (nI i)), some (.int (nI j))]) (by decide) rfl (Nat.le_of_ble_eq_true rfl) rfl ?_
  refine a_aload_n (pc := 0) dX6_pair_0 rfl rfl ?_
  refine a_iload_n (pc := 1) dX6_pair_1 rfl rfl ?_
  refine a_iload_n (pc := 2) dX6_pair_2 rfl rfl ?_
  refine a_callI2 (pc := 3) ck_X6_63 ⟨(Nat.le_of_ble_eq_true rfl), (Nat.le_of_ble_eq_true rfl)⟩ (by assumption) (by decide) (Nat.le_of_ble_eq_true rfl) dX6_pair_3 rfl (c_X6_isPair h0 (by omega)) ?_
  rintro r u ⟨hr, rfl⟩
  have hr1 : r = 1 := by
    rcases hr with q | q
    · exact q.1
    · exact absurd ⟨⟨i, hi, rfl⟩, ⟨j, hj, rfl⟩, nI_ne (by omega) (by omega) hij⟩ q.2
  subst hr1
  refine a_if_eq (pc := 6) (tgt := 21) dX6_pair_6 (by decide) (fun c_6 => ?_) (fun c_6 => ?_)
  · exact absurd c_6 (by decide)
  · refine a_aload_n (pc := 9) dX6_pair_9 rfl rfl ?_
    refine a_getr (pc := 10) fl_X6_16 (by assumption) (by decide) (by rfl) dX6_pair_10 ?_
    refine a_iload_n (pc := 13) dX6_pair_13 rfl rfl ?_
    refine a_iload_n (pc := 14) dX6_pair_14 rfl rfl ?_
    refine a_callI2 (pc := 15) ck_X6_187 ⟨(Nat.le_of_ble_eq_true rfl), (Nat.le_of_ble_eq_true rfl)⟩ (by assumption) (by decide) (Nat.le_of_ble_eq_true rfl) dX6_pair_15 rfl (c_X2_nearness net_2 (by omega) (by omega)) ?_
    rintro r u ⟨rfl, rfl⟩
    refine a_goto (pc := 18) (tgt := 22) dX6_pair_18 (by decide) ?_
    refine a_iret (pc := 22) rfl dX6_pair_22 ?_
    exact ⟨rfl, rfl⟩

set_option maxHeartbeats 4000000 in
set_option maxRecDepth 100000 in
theorem c_X7_pair {ν : Mem} {N i j : Nat} (h0 : ν 0 2 = nI N) (hN : N ≤ 6) (hi : i < N) (hj : j < N) (hij : i ≠ j) : Con shM mX7_pair [.ref 0, .int (nI i), .int (nI j)] ν (fun r u => r = nearF (ν 2 (420 + i)) (ν 2 (420 + j)) (nI j) ∧ ν = u) := by
  have m0 : shM[0]? = some (7, 18, [none, some 1, none, none, none, none, none, some 2, some 3, none, none, some 4, none, none, some 5, some 6, some 7, some 8]) := rfl
  have m1 : shM[1]? = some (100, 200, []) := rfl
  have m2 : shM[2]? = some (100, 1320, []) := rfl
  have m3 : shM[3]? = some (100, 1760, []) := rfl
  have m4 : shM[4]? = some (100, 4, []) := rfl
  have m5 : shM[5]? = some (100, 6, []) := rfl
  have m6 : shM[6]? = some (100, 6, []) := rfl
  have m7 : shM[7]? = some (100, 6, []) := rfl
  have m8 : shM[8]? = some (100, 6, []) := rfl
  refine Con.ofAW (al0 := [some (.ref 0), some (.int (nI i)), some (.int (nI j))]) (by decide) rfl (Nat.le_of_ble_eq_true rfl) rfl ?_
  refine a_aload_n (pc := 0) dX7_pair_0 rfl rfl ?_
  refine a_iload_n (pc := 1) dX7_pair_1 rfl rfl ?_
  refine a_iload_n (pc := 2) dX7_pair_2 rfl rfl ?_
  refine a_callI2 (pc := 3) ck_X7_178 ⟨(Nat.le_of_ble_eq_true rfl), (Nat.le_of_ble_eq_true rfl)⟩ (by assumption) (by decide) (Nat.le_of_ble_eq_true rfl) dX7_pair_3 rfl (c_X7_areTwo h0 (by omega) (by omega)) ?_
  rintro r u ⟨hr, rfl⟩
  have hr1 : r = 1 := by
    rcases hr with q | q
    · exact q.1
    · exact absurd ⟨⟨i, hi, rfl⟩, ⟨j, hj, rfl⟩, nI_ne (by omega) (by omega) hij⟩ q.2
  subst hr1
  refine a_if_eq (pc := 6) (tgt := 18) dX7_pair_6 (by decide) (fun c_6 => ?_) (fun c_6 => ?_)
  · exact absurd c_6 (by decide)
  · refine a_aload_n (pc := 9) dX7_pair_9 rfl rfl ?_
    refine a_iload_n (pc := 10) dX7_pair_10 rfl rfl ?_
    refine a_iload_n (pc := 11) dX7_pair_11 rfl rfl ?_
    refine a_callI2 (pc := 12) ck_X7_184 ⟨(Nat.le_of_ble_eq_true rfl), (Nat.le_of_ble_eq_true rfl)⟩ (by assumption) (by decide) (Nat.le_of_ble_eq_true rfl) dX7_pair_12 rfl (c_X7_pairOf (by omega) (by omega)) ?_
    rintro r u ⟨rfl, rfl⟩
    refine a_goto (pc := 15) (tgt := 19) dX7_pair_15 (by decide) ?_
    refine a_iret (pc := 19) rfl dX7_pair_19 ?_
    exact ⟨rfl, rfl⟩

set_option maxHeartbeats 4000000 in
set_option maxRecDepth 100000 in
theorem c_X6_drawX {μ : Mem} {N : Nat} {i j k w : Int32} (h0 : μ 2 0 = nI N) (hN : N ≤ 6) (h : ¬ (stnP i N ∧ ¬ k < 0 ∧ ¬ 999 < k)) : Con shC mX6_draw [.ref 0, .int i, .int k] μ (fun r u => r = -1 ∧ μ = u) := by
  have z0 : shC[0]? = some (6, 8, [some 1, none, some 2, some 53, some 104, some 106, none, none]) := rfl
  have hn := net_2
  obtain ⟨hn0, hn1, hn2, hnS⟩ := id hn
  refine Con.ofAW (al0 := [some (.ref 0), some (.int i), some (.int k)]) (by decide) rfl (Nat.le_of_ble_eq_true rfl) rfl ?_
  refine a_aload_n (pc := 0) dX6_draw_0 rfl rfl ?_
  refine a_iload_n (pc := 1) dX6_draw_1 rfl rfl ?_
  refine a_callI1 (pc := 2) ck_X6_129 ⟨(Nat.le_of_ble_eq_true rfl), (Nat.le_of_ble_eq_true rfl)⟩ (by assumption) (by decide) (Nat.le_of_ble_eq_true rfl) dX6_draw_2 rfl (c_X6_isStation h0 (by omega)) ?_
  rintro r u ⟨hr, rfl⟩
  refine a_if_eq (pc := 5) (tgt := 19) dX6_draw_5 (by decide) (fun c_5 => ?_) (fun c_5 => ?_)
  · refine a_iconst (pc := 19) (v := -1) dX6_draw_19 (by decide) ?_
    refine a_iret (pc := 20) rfl dX6_draw_20 ?_
    exact ⟨rfl, rfl⟩
  · refine a_iload_n (pc := 8) dX6_draw_8 rfl rfl ?_
    refine a_if_lt (pc := 9) (tgt := 19) dX6_draw_9 (by decide) (fun c_9 => ?_) (fun c_9 => ?_)
    · refine a_iconst (pc := 19) (v := -1) dX6_draw_19 (by decide) ?_
      refine a_iret (pc := 20) rfl dX6_draw_20 ?_
      exact ⟨rfl, rfl⟩
    · refine a_iload_n (pc := 12) dX6_draw_12 rfl rfl ?_
      refine a_sipush (pc := 13) (v := 999) dX6_draw_13 (by decide) ?_
      refine a_icmp_le (pc := 16) (tgt := 21) dX6_draw_16 (by decide) (fun c_16 => ?_) (fun c_16 => ?_)
      · exfalso
        rw [← Int32.not_lt] at c_16
        simp_all [-Int32.not_lt, -Int32.not_le]
      · refine a_iconst (pc := 19) (v := -1) dX6_draw_19 (by decide) ?_
        refine a_iret (pc := 20) rfl dX6_draw_20 ?_
        exact ⟨rfl, rfl⟩

set_option maxHeartbeats 4000000 in
set_option maxRecDepth 100000 in
theorem c_X7_drawX {ν : Mem} {N : Nat} {i j k w : Int32} (h0 : ν 0 2 = nI N) (hN : N ≤ 6) (hN1 : 1 ≤ N) (h : ¬ (stnP i N ∧ ¬ k < 0 ∧ ¬ 999 < k)) : Con shM mX7_draw [.ref 0, .int i, .int k] ν (fun r u => r = -1 ∧ ν = u) := by
  have m0 : shM[0]? = some (7, 18, [none, some 1, none, none, none, none, none, some 2, some 3, none, none, some 4, none, none, some 5, some 6, some 7, some 8]) := rfl
  have m1 : shM[1]? = some (100, 200, []) := rfl
  have m2 : shM[2]? = some (100, 1320, []) := rfl
  have m3 : shM[3]? = some (100, 1760, []) := rfl
  have m4 : shM[4]? = some (100, 4, []) := rfl
  have m5 : shM[5]? = some (100, 6, []) := rfl
  have m6 : shM[6]? = some (100, 6, []) := rfl
  have m7 : shM[7]? = some (100, 6, []) := rfl
  have m8 : shM[8]? = some (100, 6, []) := rfl
  refine Con.ofAW (al0 := [some (.ref 0), some (.int i), some (.int k)]) (by decide) rfl (Nat.le_of_ble_eq_true rfl) rfl ?_
  refine a_aload_n (pc := 0) dX7_draw_0 rfl rfl ?_
  refine a_iload_n (pc := 1) dX7_draw_1 rfl rfl ?_
  refine a_callI1 (pc := 2) ck_X7_175 ⟨(Nat.le_of_ble_eq_true rfl), (Nat.le_of_ble_eq_true rfl)⟩ (by assumption) (by decide) (Nat.le_of_ble_eq_true rfl) dX7_draw_2 rfl (c_X7_isStation h0 (by omega) hN1) ?_
  rintro r u ⟨hr, rfl⟩
  refine a_if_eq (pc := 5) (tgt := 29) dX7_draw_5 (by decide) (fun c_5 => ?_) (fun c_5 => ?_)
  · refine a_iconst (pc := 29) (v := -1) dX7_draw_29 (by decide) ?_
    refine a_iret (pc := 30) rfl dX7_draw_30 ?_
    exact ⟨rfl, rfl⟩
  · refine a_iload_n (pc := 8) dX7_draw_8 rfl rfl ?_
    refine a_iconst (pc := 9) (v := 0) dX7_draw_9 (by decide) ?_
    refine a_sipush (pc := 10) (v := 999) dX7_draw_10 (by decide) ?_
    refine a_callS3 (pc := 13) cs_X7_94 ⟨(Nat.le_of_ble_eq_true rfl), (Nat.le_of_ble_eq_true rfl)⟩ (Nat.le_of_ble_eq_true rfl) dX7_draw_13 rfl c_X7_isIn ?_
    rintro r2 u ⟨hr2, rfl⟩
    refine a_if_eq (pc := 16) (tgt := 29) dX7_draw_16 (by decide) (fun c_16 => ?_) (fun c_16 => ?_)
    · refine a_iconst (pc := 29) (v := -1) dX7_draw_29 (by decide) ?_
      refine a_iret (pc := 30) rfl dX7_draw_30 ?_
      exact ⟨rfl, rfl⟩
    · exfalso; simp_all [-Int32.not_lt, -Int32.not_le]

set_option maxHeartbeats 4000000 in
set_option maxRecDepth 100000 in
theorem c_X6_draw {μ : Mem} {N i : Nat} {k : Int32} (h0 : μ 2 0 = nI N) (hN : N ≤ 6) (hiN : i < N) (hk : ¬ k < 0 ∧ ¬ 999 < k) : Con shC mX6_draw [.ref 0, .int (nI i), .int k] μ (fun r u => r = drnF (μ 2 5) (nI i) k ∧ μ = u) := by
  have z0 : shC[0]? = some (6, 8, [some 1, none, some 2, some 53, some 104, some 106, none, none]) := rfl
  have hn := net_2
  obtain ⟨hn0, hn1, hn2, hnS⟩ := id hn
  refine Con.ofAW (al0 := [some (.ref 0), some (.int (nI i)), some (.int k)]) (by decide) rfl (Nat.le_of_ble_eq_true rfl) rfl ?_
  refine a_aload_n (pc := 0) dX6_draw_0 rfl rfl ?_
  refine a_iload_n (pc := 1) dX6_draw_1 rfl rfl ?_
  refine a_callI1 (pc := 2) ck_X6_129 ⟨(Nat.le_of_ble_eq_true rfl), (Nat.le_of_ble_eq_true rfl)⟩ (by assumption) (by decide) (Nat.le_of_ble_eq_true rfl) dX6_draw_2 rfl (c_X6_isStation h0 (by omega)) ?_
  rintro r u ⟨hr, rfl⟩
  have hr1 : r = 1 := by
    rcases hr with q | q
    · exact q.1
    · exact absurd ⟨i, hiN, rfl⟩ q.2
  subst hr1
  refine a_if_eq (pc := 5) (tgt := 19) dX6_draw_5 (by decide) (fun c_5 => ?_) (fun c_5 => ?_)
  · exact absurd c_5 (by decide)
  · refine a_iload_n (pc := 8) dX6_draw_8 rfl rfl ?_
    refine a_if_lt (pc := 9) (tgt := 19) dX6_draw_9 (by decide) (fun c_9 => ?_) (fun c_9 => ?_)
    · exact absurd c_9 hk.1
    · refine a_iload_n (pc := 12) dX6_draw_12 rfl rfl ?_
      refine a_sipush (pc := 13) (v := 999) dX6_draw_13 (by decide) ?_
      refine a_icmp_le (pc := 16) (tgt := 21) dX6_draw_16 (by decide) (fun c_16 => ?_) (fun c_16 => ?_)
      · refine a_aload_n (pc := 21) dX6_draw_21 rfl rfl ?_
        refine a_getr (pc := 22) fl_X6_16 (by assumption) (by decide) (by rfl) dX6_draw_22 ?_
        refine a_geti (pc := 25) fl_X6_107 (by assumption) (by decide) (by rfl) dX6_draw_25 ?_
        refine a_iload_n (pc := 28) dX6_draw_28 rfl rfl ?_
        refine a_iload_n (pc := 29) dX6_draw_29 rfl rfl ?_
        refine a_callS3 (pc := 30) cs_X6_190 ⟨(Nat.le_of_ble_eq_true rfl), (Nat.le_of_ble_eq_true rfl)⟩ (Nat.le_of_ble_eq_true rfl) dX6_draw_30 rfl c_X6_drawnNumber ?_
        rintro r u ⟨rfl, rfl⟩
        refine a_iret (pc := 33) rfl dX6_draw_33 ?_
        exact ⟨rfl, rfl⟩
      · exact absurd (Int32.not_lt.mp hk.2) c_16

set_option maxHeartbeats 4000000 in
set_option maxRecDepth 100000 in
theorem c_X7_draw {ν : Mem} {N i : Nat} {k : Int32} (h0 : ν 0 2 = nI N) (hN : N ≤ 6) (hiN : i < N) (hk : ¬ k < 0 ∧ ¬ 999 < k) : Con shM mX7_draw [.ref 0, .int (nI i), .int k] ν (fun r u => r = drnF (ν 2 428) (nI i) k ∧ ν = u) := by
  have m0 : shM[0]? = some (7, 18, [none, some 1, none, none, none, none, none, some 2, some 3, none, none, some 4, none, none, some 5, some 6, some 7, some 8]) := rfl
  have m1 : shM[1]? = some (100, 200, []) := rfl
  have m2 : shM[2]? = some (100, 1320, []) := rfl
  have m3 : shM[3]? = some (100, 1760, []) := rfl
  have m4 : shM[4]? = some (100, 4, []) := rfl
  have m5 : shM[5]? = some (100, 6, []) := rfl
  have m6 : shM[6]? = some (100, 6, []) := rfl
  have m7 : shM[7]? = some (100, 6, []) := rfl
  have m8 : shM[8]? = some (100, 6, []) := rfl
  refine Con.ofAW (al0 := [some (.ref 0), some (.int (nI i)), some (.int k)]) (by decide) rfl (Nat.le_of_ble_eq_true rfl) rfl ?_
  refine a_aload_n (pc := 0) dX7_draw_0 rfl rfl ?_
  refine a_iload_n (pc := 1) dX7_draw_1 rfl rfl ?_
  refine a_callI1 (pc := 2) ck_X7_175 ⟨(Nat.le_of_ble_eq_true rfl), (Nat.le_of_ble_eq_true rfl)⟩ (by assumption) (by decide) (Nat.le_of_ble_eq_true rfl) dX7_draw_2 rfl (c_X7_isStation h0 (by omega) (by omega)) ?_
  rintro r u ⟨hr, rfl⟩
  have hr1 : r = 1 := by
    rcases hr with q | q
    · exact q.1
    · exact absurd ⟨i, hiN, rfl⟩ q.2
  subst hr1
  refine a_if_eq (pc := 5) (tgt := 29) dX7_draw_5 (by decide) (fun c_5 => ?_) (fun c_5 => ?_)
  · exact absurd c_5 (by decide)
  · refine a_iload_n (pc := 8) dX7_draw_8 rfl rfl ?_
    refine a_iconst (pc := 9) (v := 0) dX7_draw_9 (by decide) ?_
    refine a_sipush (pc := 10) (v := 999) dX7_draw_10 (by decide) ?_
    refine a_callS3 (pc := 13) cs_X7_94 ⟨(Nat.le_of_ble_eq_true rfl), (Nat.le_of_ble_eq_true rfl)⟩ (Nat.le_of_ble_eq_true rfl) dX7_draw_13 rfl c_X7_isIn ?_
    rintro r u ⟨hr, rfl⟩
    have hr1 : r = 1 := by
      rcases hr with q | q
      · exact q.1
      · rcases q.2 with q | q
        · exact absurd q hk.1
        · exact absurd q hk.2
    subst hr1
    refine a_if_eq (pc := 16) (tgt := 29) dX7_draw_16 (by decide) (fun c_16 => ?_) (fun c_16 => ?_)
    · exact absurd c_16 (by decide)
    · refine a_aload_n (pc := 19) dX7_draw_19 rfl rfl ?_
      refine a_iconst (pc := 20) (v := 0) dX7_draw_20 (by decide) ?_
      refine a_iload_n (pc := 21) dX7_draw_21 rfl rfl ?_
      refine a_iload_n (pc := 22) dX7_draw_22 rfl rfl ?_
      refine a_callI3 (pc := 23) ck_X7_134 ⟨(Nat.le_of_ble_eq_true rfl), (Nat.le_of_ble_eq_true rfl)⟩ (by assumption) (by decide) (Nat.le_of_ble_eq_true rfl) dX7_draw_23 rfl (c_X7_drawn (r := 0) (by omega)) ?_
      rintro r u ⟨rfl, rfl⟩
      refine a_goto (pc := 26) (tgt := 30) dX7_draw_26 (by decide) ?_
      refine a_iret (pc := 30) rfl dX7_draw_30 ?_
      exact ⟨rfl, rfl⟩

