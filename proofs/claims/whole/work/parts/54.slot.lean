/-! slot -/
set_option maxHeartbeats 4000000 in
set_option maxRecDepth 100000 in
theorem c_X6_slotX {μ : Mem} {k : Int32} (h : ¬ (¬ k < 1 ∧ ¬ 99 < k)) : Con shC mX6_slot [.ref 0, .int k] μ (fun r u => r = -1 ∧ μ = u) := by
  have z0 : shC[0]? = some (6, 8, [some 1, none, some 2, some 53, some 104, some 106, none, none]) := rfl
  have hn := net_2
  obtain ⟨hn0, hn1, hn2, hnS⟩ := id hn
  refine Con.ofAW (al0 := [some (.ref 0), some (.int k), none]) (by decide) rfl (Nat.le_of_ble_eq_true rfl) rfl ?_
  refine a_iload_n (pc := 0) dX6_slot_0 rfl rfl ?_
  refine a_iconst (pc := 1) (v := 1) dX6_slot_1 (by decide) ?_
  refine a_icmp_lt (pc := 2) (tgt := 11) dX6_slot_2 (by decide) (fun c_2 => ?_) (fun c_2 => ?_)
  · refine a_iconst (pc := 11) (v := -1) dX6_slot_11 (by decide) ?_
    refine a_iret (pc := 12) rfl dX6_slot_12 ?_
    exact ⟨rfl, rfl⟩
  · refine a_iload_n (pc := 5) dX6_slot_5 rfl rfl ?_
    refine a_bipush (pc := 6) (v := 99) dX6_slot_6 (by decide) ?_
    refine a_icmp_le (pc := 8) (tgt := 13) dX6_slot_8 (by decide) (fun c_8 => ?_) (fun c_8 => ?_)
    · exfalso
      rw [← Int32.not_lt] at c_8
      exact h ⟨c_2, c_8⟩
    · refine a_iconst (pc := 11) (v := -1) dX6_slot_11 (by decide) ?_
      refine a_iret (pc := 12) rfl dX6_slot_12 ?_
      exact ⟨rfl, rfl⟩

set_option maxHeartbeats 4000000 in
set_option maxRecDepth 100000 in
theorem c_X7_slotX {ν : Mem} {k : Int32} (h : ¬ (¬ k < 1 ∧ ¬ 99 < k)) : Con shM mX7_slot [.ref 0, .int k] ν (fun r u => r = -1 ∧ ν = u) := by
  have m0 : shM[0]? = some (7, 18, [none, some 1, none, none, none, none, none, some 2, some 3, none, none, some 4, none, none, some 5, some 6, some 7, some 8]) := rfl
  have m1 : shM[1]? = some (100, 200, []) := rfl
  have m2 : shM[2]? = some (100, 1320, []) := rfl
  have m3 : shM[3]? = some (100, 1760, []) := rfl
  have m4 : shM[4]? = some (100, 4, []) := rfl
  have m5 : shM[5]? = some (100, 6, []) := rfl
  have m6 : shM[6]? = some (100, 6, []) := rfl
  have m7 : shM[7]? = some (100, 6, []) := rfl
  have m8 : shM[8]? = some (100, 6, []) := rfl
  refine Con.ofAW (al0 := [some (.ref 0), some (.int k), none, none]) (by decide) rfl (Nat.le_of_ble_eq_true rfl) rfl ?_
  refine a_iload_n (pc := 0) dX7_slot_0 rfl rfl ?_
  refine a_iconst (pc := 1) (v := 1) dX7_slot_1 (by decide) ?_
  refine a_bipush (pc := 2) (v := 99) dX7_slot_2 (by decide) ?_
  refine a_callS3 (pc := 4) cs_X7_94 ⟨(Nat.le_of_ble_eq_true rfl), (Nat.le_of_ble_eq_true rfl)⟩ (Nat.le_of_ble_eq_true rfl) dX7_slot_4 rfl c_X7_isIn ?_
  rintro r2 u ⟨hr2, rfl⟩
  have hr3 := isin_n hr2 h
  subst hr3
  refine a_if_ne (pc := 7) (tgt := 12) dX7_slot_7 (by decide) (fun c_7 => ?_) (fun c_7 => ?_)
  · exact absurd c_7 (by decide)
  · refine a_iconst (pc := 10) (v := -1) dX7_slot_10 (by decide) ?_
    refine a_iret (pc := 11) rfl dX7_slot_11 ?_
    exact ⟨rfl, rfl⟩

set_option maxHeartbeats 4000000 in
set_option maxRecDepth 100000 in
theorem c_X6_slotL {μ : Mem} {q t : Nat} (hq1 : 1 ≤ q) (hq : q ≤ 99) (ht : t ≤ 9999) (h6 : μ 2 6 = nI t) (hl : 9999 < t + q) : Con shC mX6_slot [.ref 0, .int (nI q)] μ (fun r u => r = -2 ∧ μ = u) := by
  have z0 : shC[0]? = some (6, 8, [some 1, none, some 2, some 53, some 104, some 106, none, none]) := rfl
  have hn := net_2
  obtain ⟨hn0, hn1, hn2, hnS⟩ := id hn
  refine Con.ofAW (al0 := [some (.ref 0), some (.int (nI q)), none]) (by decide) rfl (Nat.le_of_ble_eq_true rfl) rfl ?_
  refine a_iload_n (pc := 0) dX6_slot_0 rfl rfl ?_
  refine a_iconst (pc := 1) (v := 1) dX6_slot_1 (by decide) ?_
  refine a_icmp_lt (pc := 2) (tgt := 11) dX6_slot_2 (by decide) (fun c_2 => ?_) (fun c_2 => ?_)
  · exact absurd c_2 (nI_nlt (b := 1) (by omega) (by omega))
  · refine a_iload_n (pc := 5) dX6_slot_5 rfl rfl ?_
    refine a_bipush (pc := 6) (v := 99) dX6_slot_6 (by decide) ?_
    refine a_icmp_le (pc := 8) (tgt := 13) dX6_slot_8 (by decide) (fun c_8 => ?_) (fun c_8 => ?_)
    · refine a_aload_n (pc := 13) dX6_slot_13 rfl rfl ?_
      refine a_getr (pc := 14) fl_X6_16 (by assumption) (by decide) (by rfl) dX6_slot_14 ?_
      refine a_geti (pc := 17) fl_X6_110 (by assumption) (by decide) (by rfl) dX6_slot_17 ?_
      refine a_top (y := nI t) h6 ?_
      refine a_iload_n (pc := 20) dX6_slot_20 rfl rfl ?_
      refine a_iaddN (pc := 21) (a := _) (b := _) rfl rfl dX6_slot_21 ?_
      refine a_sipush (pc := 22) (v := 9999) dX6_slot_22 (by decide) ?_
      refine a_icmp_le (pc := 25) (tgt := 31) dX6_slot_25 (by decide) (fun c_25 => ?_) (fun c_25 => ?_)
      · exact absurd c_25 (nI_ge (a := 9999) (by omega) (by omega))
      · refine a_bipush (pc := 28) (v := -2) dX6_slot_28 (by decide) ?_
        refine a_iret (pc := 30) rfl dX6_slot_30 ?_
        exact ⟨rfl, rfl⟩
    · exact absurd (nI_le (b := 99) (by omega) (by omega)) c_8

set_option maxHeartbeats 4000000 in
set_option maxRecDepth 100000 in
theorem c_X7_slotL {ν : Mem} {q t : Nat} (hq1 : 1 ≤ q) (hq : q ≤ 99) (ht : t ≤ 9999) (h6 : ν 2 426 = nI t) (hl : 9999 < t + q) : Con shM mX7_slot [.ref 0, .int (nI q)] ν (fun r u => r = -2 ∧ ν = u) := by
  have m0 : shM[0]? = some (7, 18, [none, some 1, none, none, none, none, none, some 2, some 3, none, none, some 4, none, none, some 5, some 6, some 7, some 8]) := rfl
  have m1 : shM[1]? = some (100, 200, []) := rfl
  have m2 : shM[2]? = some (100, 1320, []) := rfl
  have m3 : shM[3]? = some (100, 1760, []) := rfl
  have m4 : shM[4]? = some (100, 4, []) := rfl
  have m5 : shM[5]? = some (100, 6, []) := rfl
  have m6 : shM[6]? = some (100, 6, []) := rfl
  have m7 : shM[7]? = some (100, 6, []) := rfl
  have m8 : shM[8]? = some (100, 6, []) := rfl
  refine Con.ofAW (al0 := [some (.ref 0), some (.int (nI q)), none, none]) (by decide) rfl (Nat.le_of_ble_eq_true rfl) rfl ?_
  refine a_iload_n (pc := 0) dX7_slot_0 rfl rfl ?_
  refine a_iconst (pc := 1) (v := 1) dX7_slot_1 (by decide) ?_
  refine a_bipush (pc := 2) (v := 99) dX7_slot_2 (by decide) ?_
  refine a_callS3 (pc := 4) cs_X7_94 ⟨(Nat.le_of_ble_eq_true rfl), (Nat.le_of_ble_eq_true rfl)⟩ (Nat.le_of_ble_eq_true rfl) dX7_slot_4 rfl c_X7_isIn ?_
  rintro r u ⟨hr, rfl⟩
  have hr1 := isin_y hr (⟨nI_nlt (b := 1) (by omega) (by omega), nI_nlt (a := 99) (by omega) (by omega)⟩)
  subst hr1
  refine a_if_ne (pc := 7) (tgt := 12) dX7_slot_7 (by decide) (fun c_7 => ?_) (fun c_7 => ?_)
  · refine a_aload_n (pc := 12) dX7_slot_12 rfl rfl ?_
    refine a_getr (pc := 13) fl_X7_13 (by assumption) (by decide) (by rfl) dX7_slot_13 ?_
    refine a_sipush (pc := 16) (v := 426) dX7_slot_16 (by decide) ?_
    refine a_iald (pc := 19) (j := 426) (by assumption) rfl (by omega) (by decide) dX7_slot_19 ?_
    refine a_top (y := nI t) h6 ?_
    refine a_iload_n (pc := 20) dX7_slot_20 rfl rfl ?_
    refine a_iaddN (pc := 21) (a := _) (b := _) rfl rfl dX7_slot_21 ?_
    refine a_sipush (pc := 22) (v := 9999) dX7_slot_22 (by decide) ?_
    refine a_icmp_le (pc := 25) (tgt := 31) dX7_slot_25 (by decide) (fun c_25 => ?_) (fun c_25 => ?_)
    · exact absurd c_25 (nI_ge (a := 9999) (by omega) (by omega))
    · refine a_bipush (pc := 28) (v := -2) dX7_slot_28 (by decide) ?_
      refine a_iret (pc := 30) rfl dX7_slot_30 ?_
      exact ⟨rfl, rfl⟩
  · exact absurd c_7 (by decide)

set_option maxHeartbeats 4000000 in
set_option maxRecDepth 100000 in
theorem c_X6_slot {μ : Mem} {q t N : Nat} {U : Mem → Prop} (hU : Con shC mX6_remember [.ref 0] μ (fun _ u => U u)) (hf : ∀ u, U u → ∀ x, 1 ≤ x → x ≤ 106 → u x = μ x) (hq1 : 1 ≤ q) (hq : q ≤ 99) (ht : t ≤ 9999) (h6 : μ 2 6 = nI t) (hl : t + q ≤ 9999) (h0 : μ 2 0 = nI N) (hN : N ≤ 6) (hp : ∀ v, U v → ∀ j, j < q → ∀ k, k < N → PreL (lsM (sltM (pasF v 2 N j) 2 N) 2 k) 2 k) : Con shC mX6_slot [.ref 0, .int (nI q)] μ (fun r u => ∃ v, U v ∧ u = pasF v 2 N q ∧ r = sumF (fun i => u (stA 2 i) 6) N - sumF (fun i => v (stA 2 i) 6) N) := by
  have z0 : shC[0]? = some (6, 8, [some 1, none, some 2, some 53, some 104, some 106, none, none]) := rfl
  have hn := net_2
  obtain ⟨hn0, hn1, hn2, hnS⟩ := id hn
  refine Con.ofAW (al0 := [some (.ref 0), some (.int (nI q)), none]) (by decide) rfl (Nat.le_of_ble_eq_true rfl) rfl ?_
  refine a_iload_n (pc := 0) dX6_slot_0 rfl rfl ?_
  refine a_iconst (pc := 1) (v := 1) dX6_slot_1 (by decide) ?_
  refine a_icmp_lt (pc := 2) (tgt := 11) dX6_slot_2 (by decide) (fun c_2 => ?_) (fun c_2 => ?_)
  · exact absurd c_2 (nI_nlt (b := 1) (by omega) (by omega))
  · refine a_iload_n (pc := 5) dX6_slot_5 rfl rfl ?_
    refine a_bipush (pc := 6) (v := 99) dX6_slot_6 (by decide) ?_
    refine a_icmp_le (pc := 8) (tgt := 13) dX6_slot_8 (by decide) (fun c_8 => ?_) (fun c_8 => ?_)
    · refine a_aload_n (pc := 13) dX6_slot_13 rfl rfl ?_
      refine a_getr (pc := 14) fl_X6_16 (by assumption) (by decide) (by rfl) dX6_slot_14 ?_
      refine a_geti (pc := 17) fl_X6_110 (by assumption) (by decide) (by rfl) dX6_slot_17 ?_
      refine a_top (y := nI t) h6 ?_
      refine a_iload_n (pc := 20) dX6_slot_20 rfl rfl ?_
      refine a_iaddN (pc := 21) (a := _) (b := _) rfl rfl dX6_slot_21 ?_
      refine a_sipush (pc := 22) (v := 9999) dX6_slot_22 (by decide) ?_
      refine a_icmp_le (pc := 25) (tgt := 31) dX6_slot_25 (by decide) (fun c_25 => ?_) (fun c_25 => ?_)
      · refine a_aload_n (pc := 31) dX6_slot_31 rfl rfl ?_
        refine a_callV0 (pc := 32) ck_X6_85 ⟨(Nat.le_of_ble_eq_true rfl), (Nat.le_of_ble_eq_true rfl)⟩ (by assumption) (by decide) (Nat.le_of_ble_eq_true rfl) dX6_slot_32 rfl hU ?_
        rintro v hv
        have h0 : v 2 0 = nI N := by rw [hf v hv 2 (by omega) (by omega)]; exact h0
        refine a_aload_n (pc := 35) dX6_slot_35 rfl rfl ?_
        refine a_getr (pc := 36) fl_X6_16 (by assumption) (by decide) (by rfl) dX6_slot_36 ?_
        refine a_iconst (pc := 39) (v := 1) dX6_slot_39 (by decide) ?_
        refine a_callI1 (pc := 40) ck_X6_113 ⟨(Nat.le_of_ble_eq_true rfl), (Nat.le_of_ble_eq_true rfl)⟩ (by assumption) (by decide) (Nat.le_of_ble_eq_true rfl) dX6_slot_40 rfl (c_X2_totalOf1 hn h0 hN) ?_
        rintro r u ⟨rfl, rfl⟩
        refine a_istore_n (pc := 43) (al' := [some (.ref _), some (.int _), some (.int _)]) dX6_slot_43 rfl (by decide) rfl rfl ?_
        refine a_aload_n (pc := 44) dX6_slot_44 rfl rfl ?_
        refine a_getr (pc := 45) fl_X6_16 (by assumption) (by decide) (by rfl) dX6_slot_45 ?_
        refine a_iload_n (pc := 48) dX6_slot_48 rfl rfl ?_
        refine a_callV1 (pc := 49) ck_X6_116 ⟨(Nat.le_of_ble_eq_true rfl), (Nat.le_of_ble_eq_true rfl)⟩ (by assumption) (by decide) (Nat.le_of_ble_eq_true rfl) dX6_slot_49 rfl (c_X2_passSlots hn h0 hN (by omega) (hp v hv)) ?_
        rintro u rfl
        refine a_aload_n (pc := 52) dX6_slot_52 rfl rfl ?_
        refine a_getr (pc := 53) fl_X6_16 (by assumption) (by decide) (by rfl) dX6_slot_53 ?_
        refine a_iconst (pc := 56) (v := 1) dX6_slot_56 (by decide) ?_
        refine a_callI1 (pc := 57) ck_X6_113 ⟨(Nat.le_of_ble_eq_true rfl), (Nat.le_of_ble_eq_true rfl)⟩ (by assumption) (by decide) (Nat.le_of_ble_eq_true rfl) dX6_slot_57 rfl (c_X2_totalOf1 hn (by rw [pasF_0]; exact h0) hN) ?_
        rintro r u ⟨rfl, rfl⟩
        refine a_iload_n (pc := 60) dX6_slot_60 rfl rfl ?_
        refine a_isub (pc := 61) dX6_slot_61 ?_
        refine a_iret (pc := 62) rfl dX6_slot_62 ?_
        exact ⟨v, hv, rfl, rfl⟩
      · exact absurd (nI_le (b := 9999) (by omega) (by omega)) c_25
    · exact absurd (nI_le (b := 99) (by omega) (by omega)) c_8

set_option maxHeartbeats 4000000 in
set_option maxRecDepth 100000 in
theorem l_X7_slot {ν : Mem} {q N : Nat} {a w : Int32} (hq : q ≤ 99) (h0 : ν 0 2 = nI N) (hN : N ≤ 6) (hp : ∀ j, j < q → PreGo (gosN ν (440 * 0) N j) (440 * 0) N) {Q : Int32 → Mem → Prop} (hQ : AW shM mX7_slot 60 [some (.ref 0), some (.int (nI q)), some (.int a), some (.int (nI q))] [] (gosN ν (440 * 0) N q) Q) : ∀ d i : Nat, i + d = q → AW shM mX7_slot 44 [some (.ref 0), some (.int (nI q)), some (.int a), some (.int (nI i))] [] (gosN ν (440 * 0) N i) Q := by
  have m0 : shM[0]? = some (7, 18, [none, some 1, none, none, none, none, none, some 2, some 3, none, none, some 4, none, none, some 5, some 6, some 7, some 8]) := rfl
  have m1 : shM[1]? = some (100, 200, []) := rfl
  have m2 : shM[2]? = some (100, 1320, []) := rfl
  have m3 : shM[3]? = some (100, 1760, []) := rfl
  have m4 : shM[4]? = some (100, 4, []) := rfl
  have m5 : shM[5]? = some (100, 6, []) := rfl
  have m6 : shM[6]? = some (100, 6, []) := rfl
  have m7 : shM[7]? = some (100, 6, []) := rfl
  have m8 : shM[8]? = some (100, 6, []) := rfl
  intro d
  induction d with
  | zero =>
    intro i hd
    refine a_iload_n (pc := 44) dX7_slot_44 rfl rfl ?_
    refine a_iload_n (pc := 45) dX7_slot_45 rfl rfl ?_
    refine a_icmp_ge (pc := 46) (tgt := 60) dX7_slot_46 (by decide) (fun c_46 => ?_) (fun c_46 => ?_)
    · have e : i = q := by omega
      subst e
      exact hQ
    · exact absurd (lt_of_not_ge' (a := i) (b := q) (by omega) (by omega) c_46) (by omega)
  | succ d ih =>
    intro i hd
    refine a_iload_n (pc := 44) dX7_slot_44 rfl rfl ?_
    refine a_iload_n (pc := 45) dX7_slot_45 rfl rfl ?_
    refine a_icmp_ge (pc := 46) (tgt := 60) dX7_slot_46 (by decide) (fun c_46 => ?_) (fun c_46 => ?_)
    · exact absurd (le_of_ge' (a := i) (b := q) (by omega) (by omega) c_46) (by omega)
    · refine a_aload_n (pc := 49) dX7_slot_49 rfl rfl ?_
      refine a_iconst (pc := 50) (v := 0) dX7_slot_50 (by decide) ?_
      refine a_callV1 (pc := 51) ck_X7_196 ⟨(Nat.le_of_ble_eq_true rfl), (Nat.le_of_ble_eq_true rfl)⟩ (by assumption) (by decide) (Nat.le_of_ble_eq_true rfl) dX7_slot_51 rfl (c_X7_goes (r := 0) (by omega) (by rw [gosN_x (by omega) (by omega)]; exact h0) hN (hp i (by omega))) ?_
      rintro u rfl
      refine a_iincN (pc := 54) (m := 1) (al' := [some (.ref _), some (.int _), some (.int _), some (.int _)]) dX7_slot_54 rfl (by decide) rfl rfl ?_
      refine a_goto (pc := 57) (tgt := 44) dX7_slot_57 (by decide) ?_
      exact ih (i + 1) (by omega)
set_option maxHeartbeats 4000000 in
set_option maxRecDepth 100000 in
theorem c_X7_slot {ν : Mem} {q t N : Nat} {V : Mem → Prop} (hV : Con shM mX7_keeps [.ref 0] ν (fun _ u => V u)) (hg : ∀ v, V v → (∀ x, 1 ≤ x → x ≠ 3 → v x = ν x) ∧ ∀ k, k ≠ 9 → v 0 k = ν 0 k) (hq1 : 1 ≤ q) (hq : q ≤ 99) (ht : t ≤ 9999) (h6 : ν 2 426 = nI t) (hl : t + q ≤ 9999) (h0 : ν 0 2 = nI N) (hN : N ≤ 6) (hp : ∀ v, V v → ∀ j, j < q → PreGo (gosN v (440 * 0) N j) (440 * 0) N) : Con shM mX7_slot [.ref 0, .int (nI q)] ν (fun r u => ∃ v, V v ∧ u = gosN v (440 * 0) N q ∧ r = sumF (fun i => u 2 (440 * 0 + 70 * i + 5)) N - sumF (fun i => v 2 (440 * 0 + 70 * i + 5)) N) := by
  have m0 : shM[0]? = some (7, 18, [none, some 1, none, none, none, none, none, some 2, some 3, none, none, some 4, none, none, some 5, some 6, some 7, some 8]) := rfl
  have m1 : shM[1]? = some (100, 200, []) := rfl
  have m2 : shM[2]? = some (100, 1320, []) := rfl
  have m3 : shM[3]? = some (100, 1760, []) := rfl
  have m4 : shM[4]? = some (100, 4, []) := rfl
  have m5 : shM[5]? = some (100, 6, []) := rfl
  have m6 : shM[6]? = some (100, 6, []) := rfl
  have m7 : shM[7]? = some (100, 6, []) := rfl
  have m8 : shM[8]? = some (100, 6, []) := rfl
  refine Con.ofAW (al0 := [some (.ref 0), some (.int (nI q)), none, none]) (by decide) rfl (Nat.le_of_ble_eq_true rfl) rfl ?_
  refine a_iload_n (pc := 0) dX7_slot_0 rfl rfl ?_
  refine a_iconst (pc := 1) (v := 1) dX7_slot_1 (by decide) ?_
  refine a_bipush (pc := 2) (v := 99) dX7_slot_2 (by decide) ?_
  refine a_callS3 (pc := 4) cs_X7_94 ⟨(Nat.le_of_ble_eq_true rfl), (Nat.le_of_ble_eq_true rfl)⟩ (Nat.le_of_ble_eq_true rfl) dX7_slot_4 rfl c_X7_isIn ?_
  rintro r u ⟨hr, rfl⟩
  have hr1 := isin_y hr (⟨nI_nlt (b := 1) (by omega) (by omega), nI_nlt (a := 99) (by omega) (by omega)⟩)
  subst hr1
  refine a_if_ne (pc := 7) (tgt := 12) dX7_slot_7 (by decide) (fun c_7 => ?_) (fun c_7 => ?_)
  · refine a_aload_n (pc := 12) dX7_slot_12 rfl rfl ?_
    refine a_getr (pc := 13) fl_X7_13 (by assumption) (by decide) (by rfl) dX7_slot_13 ?_
    refine a_sipush (pc := 16) (v := 426) dX7_slot_16 (by decide) ?_
    refine a_iald (pc := 19) (j := 426) (by assumption) rfl (by omega) (by decide) dX7_slot_19 ?_
    refine a_top (y := nI t) h6 ?_
    refine a_iload_n (pc := 20) dX7_slot_20 rfl rfl ?_
    refine a_iaddN (pc := 21) (a := _) (b := _) rfl rfl dX7_slot_21 ?_
    refine a_sipush (pc := 22) (v := 9999) dX7_slot_22 (by decide) ?_
    refine a_icmp_le (pc := 25) (tgt := 31) dX7_slot_25 (by decide) (fun c_25 => ?_) (fun c_25 => ?_)
    · refine a_aload_n (pc := 31) dX7_slot_31 rfl rfl ?_
      refine a_callV0 (pc := 32) ck_X7_181 ⟨(Nat.le_of_ble_eq_true rfl), (Nat.le_of_ble_eq_true rfl)⟩ (by assumption) (by decide) (Nat.le_of_ble_eq_true rfl) dX7_slot_32 rfl hV ?_
      rintro v hv
      have h0 : v 0 2 = nI N := by rw [(hg v hv).2 2 (by omega)]; exact h0
      refine a_aload_n (pc := 35) dX7_slot_35 rfl rfl ?_
      refine a_iconst (pc := 36) (v := 0) dX7_slot_36 (by decide) ?_
      refine a_iconst (pc := 37) (v := 5) dX7_slot_37 (by decide) ?_
      refine a_callI2 (pc := 38) ck_X7_193 ⟨(Nat.le_of_ble_eq_true rfl), (Nat.le_of_ble_eq_true rfl)⟩ (by assumption) (by decide) (Nat.le_of_ble_eq_true rfl) dX7_slot_38 rfl (c_X7_all (r := 0) (k := 5) (by omega) (by omega) h0 hN) ?_
      rintro r u ⟨rfl, rfl⟩
      refine a_istore_n (pc := 41) (al' := [some (.ref _), some (.int _), some (.int _), none]) dX7_slot_41 rfl (by decide) rfl rfl ?_
      refine a_iconst (pc := 42) (v := 0) dX7_slot_42 (by decide) ?_
      refine a_istore_n (pc := 43) (al' := [some (.ref _), some (.int _), some (.int _), some (.int _)]) dX7_slot_43 rfl (by decide) rfl rfl ?_
      refine l_X7_slot (w := 0) hq h0 hN (hp v hv) ?_ q 0 (by omega)
      refine a_aload_n (pc := 60) dX7_slot_60 rfl rfl ?_
      refine a_iconst (pc := 61) (v := 0) dX7_slot_61 (by decide) ?_
      refine a_iconst (pc := 62) (v := 5) dX7_slot_62 (by decide) ?_
      refine a_callI2 (pc := 63) ck_X7_193 ⟨(Nat.le_of_ble_eq_true rfl), (Nat.le_of_ble_eq_true rfl)⟩ (by assumption) (by decide) (Nat.le_of_ble_eq_true rfl) dX7_slot_63 rfl (c_X7_all (r := 0) (k := 5) (by omega) (by omega) (by rw [gosN_x (by omega) (by omega)]; exact h0) hN) ?_
      rintro r u ⟨rfl, rfl⟩
      refine a_iload_n (pc := 66) dX7_slot_66 rfl rfl ?_
      refine a_isub (pc := 67) dX7_slot_67 ?_
      refine a_iret (pc := 68) rfl dX7_slot_68 ?_
      exact ⟨v, hv, rfl, rfl⟩
    · exact absurd (nI_le (b := 9999) (by omega) (by omega)) c_25
  · exact absurd c_7 (by decide)

theorem NB.cfg {μ ν : Mem} {N N' t t' D D' n b : Nat} (h : NB μ n ν b N t D) (h' : NB μ n ν b N' t' D') (hN : N' ≤ 6) (ht : t' ≤ 9999) (hN1 : N ≤ 6) (ht1 : t ≤ 9999) : N = N' ∧ t = t' :=
  ⟨(nI_eq (by omega) (by omega)).mp (h.1.1.1.symm.trans h'.1.1.1), (nI_eq (by omega) (by omega)).mp (h.1.2.2.1.symm.trans h'.1.2.2.1)⟩
theorem sum_5 {μ ν : Mem} {N t D n b : Nat} (h : NR μ n ν b N t D) : sumF (fun i => μ (stA n i) 6) N = sumF (fun i => ν 2 (b + 70 * i + 5)) N :=
  sumF_congr N (fun i hi => (h.2.2.2.2.2.2.2 i hi).1.1.2.2.2.2.1)
theorem api_slot {μ ν : Mem} {D : Nat} (k : Int32) (hG : GR μ ν D) (hD : D + 100 < 100000) : API mX6_slot mX7_slot [.int k] μ ν (D + 100) := by
  obtain ⟨N, t, hNR, ht, hP, hT, hB⟩ := id hG
  obtain ⟨⟨c0, c0', hN2, hN6, ⟨cl, cl1, cl2, cl3⟩, ⟨cm, cm1, cm2, cm3⟩, c3, ⟨cr, cr1, cr2, cr3⟩⟩, ⟨z, z1, z2, z3⟩, h6, h6', h7, hTK, ⟨hm, hH, hsym⟩, hR⟩ := id hNR.1
  simp only [Nat.zero_add] at z2 h6' h7 hH hR
  have hG' : GR μ ν (D + 100) := hG.net (by omega) (fun _ _ => rfl) (fun _ _ _ => rfl) (fun N t h ht hb => ⟨t, h.eq (fun _ _ _ => rfl) (fun _ _ _ => rfl) (fun _ _ => rfl) (by omega), ht, hb⟩)
  by_cases h : ¬ k < 1 ∧ ¬ 99 < k
  · have hk0 : ¬ k < 0 := fun q => h.1 (Int32.lt_trans q (by decide))
    obtain ⟨q, hq, rfl⟩ := in_of (K := 99) (n := 99) rfl ⟨hk0, h.2⟩
    have hq1 : 1 ≤ q := Nat.le_of_not_lt fun r => h.1 (nI_lt (b := 1) r (by omega))
    rcases Nat.lt_or_ge 9999 (t + q) with hl | hl
    · exact API.same hG' (c_X6_slotL hq1 hq ht h6 hl) (c_X7_slotL hq1 hq ht h6' hl)
    · obtain ⟨U, V, hU, hV, hf, hg, hGR⟩ := rem_keep hG
      have hNv : ∀ u v, U u → V v → NR u 2 v 0 N t D := fun u v hu hv => NR.mv (NCP.eq (fun x h1 h2 => hf u hu x (by omega) (by omega))) (fun k k1 k2 => (hg v hv).2 k (by omega)) (fun j hj => by rw [(hg v hv).1 2 (by omega) (by omega)]) (Nat.le_refl _) hNR.1
      have hNu : ∀ u, U u → NR u 2 ν 0 N t D := fun u hu => NR.mv (NCP.eq (fun x h1 h2 => hf u hu x (by omega) (by omega))) (fun k k1 k2 => rfl) (fun j hj => rfl) (Nat.le_refl _) hNR.1
      have hNw : ∀ v, V v → NR μ 2 v 0 N t D := fun v hv => NR.mv (NCP.rf μ 2) (fun k k1 k2 => (hg v hv).2 k (by omega)) (fun j hj => by rw [(hg v hv).1 2 (by omega) (by omega)]) (Nat.le_refl _) hNR.1
      refine ⟨_, _, c_X6_slot hU hf hq1 hq ht h6 hl c0 hN6 (fun v hv => (pass_pre (hNu v hv) (by omega) (by omega)).1), c_X7_slot hV hg hq1 hq ht h6' hl c0' hN6 (fun v hv => (pass_pre (hNw v hv) (by omega) (by omega)).2), ?_⟩
      rintro r u s v ⟨u0, hu0, rfl, hr⟩ ⟨v0, hv0, rfl, hs⟩
      have hP := pass_rel (hNv u0 v0 hu0 hv0) q (by omega) (by omega)
      refine ⟨?_, (hGR u0 v0 hu0 hv0).net (by omega) (fun x hx => pas_x (by unfold stA; omega) q) (fun x hx h2 => gosN_x (by omega) h2 q) (fun N' t' hN' ht' hB' => ?_)⟩
      · rw [hr, hs]; exact congr (congrArg _ (sum_5 hP)) (sum_5 (hNv u0 v0 hu0 hv0))
      · obtain rfl : N = N' := (nI_eq (by omega) (by have := hN'.1.1.2.2.2.1; omega)).mp ((hNv u0 v0 hu0 hv0).1.1.symm.trans hN'.1.1.1)
        obtain rfl : t = t' := (nI_eq (by omega) (by omega)).mp ((hNv u0 v0 hu0 hv0).2.2.1.symm.trans hN'.1.2.2.1)
        exact ⟨t + q, ⟨NR.mv (NCP.rf _ _) (fun _ _ _ => rfl) (fun _ _ => rfl) (by omega) hP, (hN'.2.pas hN6 q).mono (by omega)⟩, hl, hB'.pas hN6 hP⟩
  · exact API.same hG' (c_X6_slotX h) (c_X7_slotX h)

