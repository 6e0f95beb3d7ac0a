/-! totals, pairs, letters to somebody -/
def sumF (g : Nat → Int32) : Nat → Int32
  | 0 => 0
  | k + 1 => sumF g k + g k
theorem sumF_congr {g h : Nat → Int32} : ∀ k, (∀ i, i < k → g i = h i) → sumF g k = sumF h k
  | 0, _ => rfl
  | k + 1, e => by
    show sumF g k + g k = sumF h k + h k
    rw [sumF_congr k (fun i hi => e i (by omega)), e k (by omega)]
set_option maxHeartbeats 4000000 in
set_option maxRecDepth 100000 in
theorem l_X2_totalOf0 {μ : Mem} {n N : Nat} (hn : isNet n) (h0 : μ n 0 = nI N) (hN : N ≤ 6) {Q : Int32 → Mem → Prop} (hQ : Q (sumF (fun i => μ (stA n i + 1) 0) N) μ) : ∀ d i : Nat, i + d = N → AW shC mX2_totalOf 4 [some (.ref n), some (.int 0), some (.int (sumF (fun i => μ (stA n i + 1) 0) i)), some (.int (nI i))] [] μ Q := by
  obtain ⟨hn0, hn1, hn2, hnS⟩ := id hn
  intro d
  induction d with
  | zero =>
    intro i hd
    refine a_iload_n (pc := 4) dX2_totalOf_4 rfl rfl ?_
    refine a_aload_n (pc := 5) dX2_totalOf_5 rfl rfl ?_
    refine a_geti (pc := 6) fl_X2_22 (by assumption) (by decide) (by rfl) dX2_totalOf_6 ?_
    refine a_top (y := nI N) h0 ?_
    refine a_icmp_ge (pc := 9) (tgt := 31) dX2_totalOf_9 (by decide) (fun c_9 => ?_) (fun c_9 => ?_)
    · have e : i = N := by omega
      subst e
      refine a_iload_n (pc := 31) dX2_totalOf_31 rfl rfl ?_
      exact a_iret (pc := 32) rfl dX2_totalOf_32 hQ
    · exact absurd (lt_of_not_ge' (by omega) (by omega) c_9) (by omega)
  | succ d ih =>
    intro i hd
    have ws := hnS i (by omega)
    have w0 : shC[(stA n i)]? = _ := ws.1
    have w1 : shC[(stA n i) + 1]? = some (0, 3, [none, some ((stA n i) + 2), some ((stA n i) + 3)]) := ws.2.1.1
    have w2 : shC[(stA n i) + 2]? = some (100, 6, []) := ws.2.1.2.1
    have w3 : shC[(stA n i) + 3]? = some (100, 6, []) := ws.2.1.2.2
    have w4 : shC[(stA n i) + 4]? = some (1, 2, [none, some ((stA n i) + 5)]) := ws.2.2.1.1
    have w5 : shC[(stA n i) + 5]? = some (100, 24, []) := ws.2.2.1.2
    have w6 : shC[(stA n i) + 6]? = some (4, 4, [none, none, none, none]) := ws.2.2.2.1
    have w7 : shC[(stA n i) + 7]? = some (4, 4, [none, none, none, none]) := ws.2.2.2.2
    refine a_iload_n (pc := 4) dX2_totalOf_4 rfl rfl ?_
    refine a_aload_n (pc := 5) dX2_totalOf_5 rfl rfl ?_
    refine a_geti (pc := 6) fl_X2_22 (by assumption) (by decide) (by rfl) dX2_totalOf_6 ?_
    refine a_top (y := nI N) h0 ?_
    refine a_icmp_ge (pc := 9) (tgt := 31) dX2_totalOf_9 (by decide) (fun c_9 => ?_) (fun c_9 => ?_)
    · exact absurd (le_of_ge' (by omega) (by omega) c_9) (by omega)
    · refine a_iload_n (pc := 12) dX2_totalOf_12 rfl rfl ?_
      refine a_aload_n (pc := 13) dX2_totalOf_13 rfl rfl ?_
      refine a_getr (pc := 14) fl_X2_17 (by assumption) (by decide) (by rfl) dX2_totalOf_14 ?_
      refine a_iload_n (pc := 17) dX2_totalOf_17 rfl rfl ?_
      refine a_aald2 (pc := 18)  (by assumption) rfl (by omega) (by decide) (all_at (by omega)) dX2_totalOf_18 ?_
      refine a_iload_n (pc := 19) dX2_totalOf_19 rfl rfl ?_
      refine a_callI1 (pc := 20) ck_X2_70 ⟨(Nat.le_of_ble_eq_true rfl), (Nat.le_of_ble_eq_true rfl)⟩ (by assumption) (by decide) (Nat.le_of_ble_eq_true rfl) dX2_totalOf_20 rfl (c_X5_tallyOf0 ws) ?_
      rintro r u ⟨rfl, rfl⟩
      refine a_iadd (pc := 23) dX2_totalOf_23 ?_
      refine a_istore_n (pc := 24) (al' := [some (.ref _), some (.int _), some (.int _), some (.int _)]) dX2_totalOf_24 rfl (by decide) rfl rfl ?_
      refine a_iincN (pc := 25) (m := 1) (al' := [some (.ref _), some (.int _), some (.int _), some (.int _)]) dX2_totalOf_25 rfl (by decide) rfl rfl ?_
      refine a_goto (pc := 28) (tgt := 4) dX2_totalOf_28 (by decide) ?_
      exact ih (i + 1) (by omega)
set_option maxHeartbeats 4000000 in
set_option maxRecDepth 100000 in
theorem c_X2_totalOf0 {μ : Mem} {n N : Nat} (hn : isNet n) (h0 : μ n 0 = nI N) (hN : N ≤ 6) : Con shC mX2_totalOf [.ref n, .int 0] μ (fun r u => r = sumF (fun i => μ (stA n i + 1) 0) N ∧ μ = u) := by
  refine Con.ofAW (al0 := [some (.ref n), some (.int 0), none, none]) (by decide) rfl (Nat.le_of_ble_eq_true rfl) rfl ?_
  refine a_iconst (pc := 0) (v := 0) dX2_totalOf_0 (by decide) ?_
  refine a_istore_n (pc := 1) (al' := [some (.ref _), some (.int _), some (.int _), none]) dX2_totalOf_1 rfl (by decide) rfl rfl ?_
  refine a_iconst (pc := 2) (v := 0) dX2_totalOf_2 (by decide) ?_
  refine a_istore_n (pc := 3) (al' := [some (.ref _), some (.int _), some (.int _), some (.int _)]) dX2_totalOf_3 rfl (by decide) rfl rfl ?_
  exact l_X2_totalOf0 hn h0 hN ⟨rfl, rfl⟩ N 0 (by omega)

set_option maxHeartbeats 4000000 in
set_option maxRecDepth 100000 in
theorem l_X2_totalOf1 {μ : Mem} {n N : Nat} (hn : isNet n) (h0 : μ n 0 = nI N) (hN : N ≤ 6) {Q : Int32 → Mem → Prop} (hQ : Q (sumF (fun i => μ (stA n i) 6) N) μ) : ∀ d i : Nat, i + d = N → AW shC mX2_totalOf 4 [some (.ref n), some (.int 1), some (.int (sumF (fun i => μ (stA n i) 6) i)), some (.int (nI i))] [] μ Q := by
  obtain ⟨hn0, hn1, hn2, hnS⟩ := id hn
  intro d
  induction d with
  | zero =>
    intro i hd
    refine a_iload_n (pc := 4) dX2_totalOf_4 rfl rfl ?_
    refine a_aload_n (pc := 5) dX2_totalOf_5 rfl rfl ?_
    refine a_geti (pc := 6) fl_X2_22 (by assumption) (by decide) (by rfl) dX2_totalOf_6 ?_
    refine a_top (y := nI N) h0 ?_
    refine a_icmp_ge (pc := 9) (tgt := 31) dX2_totalOf_9 (by decide) (fun c_9 => ?_) (fun c_9 => ?_)
    · have e : i = N := by omega
      subst e
      refine a_iload_n (pc := 31) dX2_totalOf_31 rfl rfl ?_
      exact a_iret (pc := 32) rfl dX2_totalOf_32 hQ
    · exact absurd (lt_of_not_ge' (by omega) (by omega) c_9) (by omega)
  | succ d ih =>
    intro i hd
    have ws := hnS i (by omega)
    have w0 : shC[(stA n i)]? = _ := ws.1
    have w1 : shC[(stA n i) + 1]? = some (0, 3, [none, some ((stA n i) + 2), some ((stA n i) + 3)]) := ws.2.1.1
    have w2 : shC[(stA n i) + 2]? = some (100, 6, []) := ws.2.1.2.1
    have w3 : shC[(stA n i) + 3]? = some (100, 6, []) := ws.2.1.2.2
    have w4 : shC[(stA n i) + 4]? = some (1, 2, [none, some ((stA n i) + 5)]) := ws.2.2.1.1
    have w5 : shC[(stA n i) + 5]? = some (100, 24, []) := ws.2.2.1.2
    have w6 : shC[(stA n i) + 6]? = some (4, 4, [none, none, none, none]) := ws.2.2.2.1
    have w7 : shC[(stA n i) + 7]? = some (4, 4, [none, none, none, none]) := ws.2.2.2.2
    refine a_iload_n (pc := 4) dX2_totalOf_4 rfl rfl ?_
    refine a_aload_n (pc := 5) dX2_totalOf_5 rfl rfl ?_
    refine a_geti (pc := 6) fl_X2_22 (by assumption) (by decide) (by rfl) dX2_totalOf_6 ?_
    refine a_top (y := nI N) h0 ?_
    refine a_icmp_ge (pc := 9) (tgt := 31) dX2_totalOf_9 (by decide) (fun c_9 => ?_) (fun c_9 => ?_)
    · exact absurd (le_of_ge' (by omega) (by omega) c_9) (by omega)
    · refine a_iload_n (pc := 12) dX2_totalOf_12 rfl rfl ?_
      refine a_aload_n (pc := 13) dX2_totalOf_13 rfl rfl ?_
      refine a_getr (pc := 14) fl_X2_17 (by assumption) (by decide) (by rfl) dX2_totalOf_14 ?_
      refine a_iload_n (pc := 17) dX2_totalOf_17 rfl rfl ?_
      refine a_aald2 (pc := 18)  (by assumption) rfl (by omega) (by decide) (all_at (by omega)) dX2_totalOf_18 ?_
      refine a_iload_n (pc := 19) dX2_totalOf_19 rfl rfl ?_
      refine a_callI1 (pc := 20) ck_X2_70 ⟨(Nat.le_of_ble_eq_true rfl), (Nat.le_of_ble_eq_true rfl)⟩ (by assumption) (by decide) (Nat.le_of_ble_eq_true rfl) dX2_totalOf_20 rfl (c_X5_tallyOf1 ws) ?_
      rintro r u ⟨rfl, rfl⟩
      refine a_iadd (pc := 23) dX2_totalOf_23 ?_
      refine a_istore_n (pc := 24) (al' := [some (.ref _), some (.int _), some (.int _), some (.int _)]) dX2_totalOf_24 rfl (by decide) rfl rfl ?_
      refine a_iincN (pc := 25) (m := 1) (al' := [some (.ref _), some (.int _), some (.int _), some (.int _)]) dX2_totalOf_25 rfl (by decide) rfl rfl ?_
      refine a_goto (pc := 28) (tgt := 4) dX2_totalOf_28 (by decide) ?_
      exact ih (i + 1) (by omega)
set_option maxHeartbeats 4000000 in
set_option maxRecDepth 100000 in
theorem c_X2_totalOf1 {μ : Mem} {n N : Nat} (hn : isNet n) (h0 : μ n 0 = nI N) (hN : N ≤ 6) : Con shC mX2_totalOf [.ref n, .int 1] μ (fun r u => r = sumF (fun i => μ (stA n i) 6) N ∧ μ = u) := by
  refine Con.ofAW (al0 := [some (.ref n), some (.int 1), none, none]) (by decide) rfl (Nat.le_of_ble_eq_true rfl) rfl ?_
  refine a_iconst (pc := 0) (v := 0) dX2_totalOf_0 (by decide) ?_
  refine a_istore_n (pc := 1) (al' := [some (.ref _), some (.int _), some (.int _), none]) dX2_totalOf_1 rfl (by decide) rfl rfl ?_
  refine a_iconst (pc := 2) (v := 0) dX2_totalOf_2 (by decide) ?_
  refine a_istore_n (pc := 3) (al' := [some (.ref _), some (.int _), some (.int _), some (.int _)]) dX2_totalOf_3 rfl (by decide) rfl rfl ?_
  exact l_X2_totalOf1 hn h0 hN ⟨rfl, rfl⟩ N 0 (by omega)

set_option maxHeartbeats 4000000 in
set_option maxRecDepth 100000 in
theorem l_X2_totalOf2 {μ : Mem} {n N : Nat} (hn : isNet n) (h0 : μ n 0 = nI N) (hN : N ≤ 6) {Q : Int32 → Mem → Prop} (hQ : Q (sumF (fun i => μ (stA n i) 7) N) μ) : ∀ d i : Nat, i + d = N → AW shC mX2_totalOf 4 [some (.ref n), some (.int 2), some (.int (sumF (fun i => μ (stA n i) 7) i)), some (.int (nI i))] [] μ Q := by
  obtain ⟨hn0, hn1, hn2, hnS⟩ := id hn
  intro d
  induction d with
  | zero =>
    intro i hd
    refine a_iload_n (pc := 4) dX2_totalOf_4 rfl rfl ?_
    refine a_aload_n (pc := 5) dX2_totalOf_5 rfl rfl ?_
    refine a_geti (pc := 6) fl_X2_22 (by assumption) (by decide) (by rfl) dX2_totalOf_6 ?_
    refine a_top (y := nI N) h0 ?_
    refine a_icmp_ge (pc := 9) (tgt := 31) dX2_totalOf_9 (by decide) (fun c_9 => ?_) (fun c_9 => ?_)
    · have e : i = N := by omega
      subst e
      refine a_iload_n (pc := 31) dX2_totalOf_31 rfl rfl ?_
      exact a_iret (pc := 32) rfl dX2_totalOf_32 hQ
    · exact absurd (lt_of_not_ge' (by omega) (by omega) c_9) (by omega)
  | succ d ih =>
    intro i hd
    have ws := hnS i (by omega)
    have w0 : shC[(stA n i)]? = _ := ws.1
    have w1 : shC[(stA n i) + 1]? = some (0, 3, [none, some ((stA n i) + 2), some ((stA n i) + 3)]) := ws.2.1.1
    have w2 : shC[(stA n i) + 2]? = some (100, 6, []) := ws.2.1.2.1
    have w3 : shC[(stA n i) + 3]? = some (100, 6, []) := ws.2.1.2.2
    have w4 : shC[(stA n i) + 4]? = some (1, 2, [none, some ((stA n i) + 5)]) := ws.2.2.1.1
    have w5 : shC[(stA n i) + 5]? = some (100, 24, []) := ws.2.2.1.2
    have w6 : shC[(stA n i) + 6]? = some (4, 4, [none, none, none, none]) := ws.2.2.2.1
    have w7 : shC[(stA n i) + 7]? = some (4, 4, [none, none, none, none]) := ws.2.2.2.2
    refine a_iload_n (pc := 4) dX2_totalOf_4 rfl rfl ?_
    refine a_aload_n (pc := 5) dX2_totalOf_5 rfl rfl ?_
    refine a_geti (pc := 6) fl_X2_22 (by assumption) (by decide) (by rfl) dX2_totalOf_6 ?_
    refine a_top (y := nI N) h0 ?_
    refine a_icmp_ge (pc := 9) (tgt := 31) dX2_totalOf_9 (by decide) (fun c_9 => ?_) (fun c_9 => ?_)
    · exact absurd (le_of_ge' (by omega) (by omega) c_9) (by omega)
    · refine a_iload_n (pc := 12) dX2_totalOf_12 rfl rfl ?_
      refine a_aload_n (pc := 13) dX2_totalOf_13 rfl rfl ?_
      refine a_getr (pc := 14) fl_X2_17 (by assumption) (by decide) (by rfl) dX2_totalOf_14 ?_
      refine a_iload_n (pc := 17) dX2_totalOf_17 rfl rfl ?_
      refine a_aald2 (pc := 18)  (by assumption) rfl (by omega) (by decide) (all_at (by omega)) dX2_totalOf_18 ?_
      refine a_iload_n (pc := 19) dX2_totalOf_19 rfl rfl ?_
      refine a_callI1 (pc := 20) ck_X2_70 ⟨(Nat.le_of_ble_eq_true rfl), (Nat.le_of_ble_eq_true rfl)⟩ (by assumption) (by decide) (Nat.le_of_ble_eq_true rfl) dX2_totalOf_20 rfl (c_X5_tallyOf2 ws) ?_
      rintro r u ⟨rfl, rfl⟩
      refine a_iadd (pc := 23) dX2_totalOf_23 ?_
      refine a_istore_n (pc := 24) (al' := [some (.ref _), some (.int _), some (.int _), some (.int _)]) dX2_totalOf_24 rfl (by decide) rfl rfl ?_
      refine a_iincN (pc := 25) (m := 1) (al' := [some (.ref _), some (.int _), some (.int _), some (.int _)]) dX2_totalOf_25 rfl (by decide) rfl rfl ?_
      refine a_goto (pc := 28) (tgt := 4) dX2_totalOf_28 (by decide) ?_
      exact ih (i + 1) (by omega)
set_option maxHeartbeats 4000000 in
set_option maxRecDepth 100000 in
theorem c_X2_totalOf2 {μ : Mem} {n N : Nat} (hn : isNet n) (h0 : μ n 0 = nI N) (hN : N ≤ 6) : Con shC mX2_totalOf [.ref n, .int 2] μ (fun r u => r = sumF (fun i => μ (stA n i) 7) N ∧ μ = u) := by
  refine Con.ofAW (al0 := [some (.ref n), some (.int 2), none, none]) (by decide) rfl (Nat.le_of_ble_eq_true rfl) rfl ?_
  refine a_iconst (pc := 0) (v := 0) dX2_totalOf_0 (by decide) ?_
  refine a_istore_n (pc := 1) (al' := [some (.ref _), some (.int _), some (.int _), none]) dX2_totalOf_1 rfl (by decide) rfl rfl ?_
  refine a_iconst (pc := 2) (v := 0) dX2_totalOf_2 (by decide) ?_
  refine a_istore_n (pc := 3) (al' := [some (.ref _), some (.int _), some (.int _), some (.int _)]) dX2_totalOf_3 rfl (by decide) rfl rfl ?_
  exact l_X2_totalOf2 hn h0 hN ⟨rfl, rfl⟩ N 0 (by omega)

set_option maxHeartbeats 4000000 in
set_option maxRecDepth 100000 in
theorem l_X2_totalOf3 {μ : Mem} {n N : Nat} (hn : isNet n) (h0 : μ n 0 = nI N) (hN : N ≤ 6) {Q : Int32 → Mem → Prop} (hQ : Q (sumF (fun i => μ (stA n i) 5) N) μ) : ∀ d i : Nat, i + d = N → AW shC mX2_totalOf 4 [some (.ref n), some (.int 3), some (.int (sumF (fun i => μ (stA n i) 5) i)), some (.int (nI i))] [] μ Q := by
  obtain ⟨hn0, hn1, hn2, hnS⟩ := id hn
  intro d
  induction d with
  | zero =>
    intro i hd
    refine a_iload_n (pc := 4) dX2_totalOf_4 rfl rfl ?_
    refine a_aload_n (pc := 5) dX2_totalOf_5 rfl rfl ?_
    refine a_geti (pc := 6) fl_X2_22 (by assumption) (by decide) (by rfl) dX2_totalOf_6 ?_
    refine a_top (y := nI N) h0 ?_
    refine a_icmp_ge (pc := 9) (tgt := 31) dX2_totalOf_9 (by decide) (fun c_9 => ?_) (fun c_9 => ?_)
    · have e : i = N := by omega
      subst e
      refine a_iload_n (pc := 31) dX2_totalOf_31 rfl rfl ?_
      exact a_iret (pc := 32) rfl dX2_totalOf_32 hQ
    · exact absurd (lt_of_not_ge' (by omega) (by omega) c_9) (by omega)
  | succ d ih =>
    intro i hd
    have ws := hnS i (by omega)
    have w0 : shC[(stA n i)]? = _ := ws.1
    have w1 : shC[(stA n i) + 1]? = some (0, 3, [none, some ((stA n i) + 2), some ((stA n i) + 3)]) := ws.2.1.1
    have w2 : shC[(stA n i) + 2]? = some (100, 6, []) := ws.2.1.2.1
    have w3 : shC[(stA n i) + 3]? = some (100, 6, []) := ws.2.1.2.2
    have w4 : shC[(stA n i) + 4]? = some (1, 2, [none, some ((stA n i) + 5)]) := ws.2.2.1.1
    have w5 : shC[(stA n i) + 5]? = some (100, 24, []) := ws.2.2.1.2
    have w6 : shC[(stA n i) + 6]? = some (4, 4, [none, none, none, none]) := ws.2.2.2.1
    have w7 : shC[(stA n i) + 7]? = some (4, 4, [none, none, none, none]) := ws.2.2.2.2
    refine a_iload_n (pc := 4) dX2_totalOf_4 rfl rfl ?_
    refine a_aload_n (pc := 5) dX2_totalOf_5 rfl rfl ?_
    refine a_geti (pc := 6) fl_X2_22 (by assumption) (by decide) (by rfl) dX2_totalOf_6 ?_
    refine a_top (y := nI N) h0 ?_
    refine a_icmp_ge (pc := 9) (tgt := 31) dX2_totalOf_9 (by decide) (fun c_9 => ?_) (fun c_9 => ?_)
    · exact absurd (le_of_ge' (by omega) (by omega) c_9) (by omega)
    · refine a_iload_n (pc := 12) dX2_totalOf_12 rfl rfl ?_
      refine a_aload_n (pc := 13) dX2_totalOf_13 rfl rfl ?_
      refine a_getr (pc := 14) fl_X2_17 (by assumption) (by decide) (by rfl) dX2_totalOf_14 ?_
      refine a_iload_n (pc := 17) dX2_totalOf_17 rfl rfl ?_
      refine a_aald2 (pc := 18)  (by assumption) rfl (by omega) (by decide) (all_at (by omega)) dX2_totalOf_18 ?_
      refine a_iload_n (pc := 19) dX2_totalOf_19 rfl rfl ?_
      refine a_callI1 (pc := 20) ck_X2_70 ⟨(Nat.le_of_ble_eq_true rfl), (Nat.le_of_ble_eq_true rfl)⟩ (by assumption) (by decide) (Nat.le_of_ble_eq_true rfl) dX2_totalOf_20 rfl (c_X5_tallyOf3 ws) ?_
      rintro r u ⟨rfl, rfl⟩
      refine a_iadd (pc := 23) dX2_totalOf_23 ?_
      refine a_istore_n (pc := 24) (al' := [some (.ref _), some (.int _), some (.int _), some (.int _)]) dX2_totalOf_24 rfl (by decide) rfl rfl ?_
      refine a_iincN (pc := 25) (m := 1) (al' := [some (.ref _), some (.int _), some (.int _), some (.int _)]) dX2_totalOf_25 rfl (by decide) rfl rfl ?_
      refine a_goto (pc := 28) (tgt := 4) dX2_totalOf_28 (by decide) ?_
      exact ih (i + 1) (by omega)
set_option maxHeartbeats 4000000 in
set_option maxRecDepth 100000 in
theorem c_X2_totalOf3 {μ : Mem} {n N : Nat} (hn : isNet n) (h0 : μ n 0 = nI N) (hN : N ≤ 6) : Con shC mX2_totalOf [.ref n, .int 3] μ (fun r u => r = sumF (fun i => μ (stA n i) 5) N ∧ μ = u) := by
  refine Con.ofAW (al0 := [some (.ref n), some (.int 3), none, none]) (by decide) rfl (Nat.le_of_ble_eq_true rfl) rfl ?_
  refine a_iconst (pc := 0) (v := 0) dX2_totalOf_0 (by decide) ?_
  refine a_istore_n (pc := 1) (al' := [some (.ref _), some (.int _), some (.int _), none]) dX2_totalOf_1 rfl (by decide) rfl rfl ?_
  refine a_iconst (pc := 2) (v := 0) dX2_totalOf_2 (by decide) ?_
  refine a_istore_n (pc := 3) (al' := [some (.ref _), some (.int _), some (.int _), some (.int _)]) dX2_totalOf_3 rfl (by decide) rfl rfl ?_
  exact l_X2_totalOf3 hn h0 hN ⟨rfl, rfl⟩ N 0 (by omega)

set_option maxHeartbeats 4000000 in
set_option maxRecDepth 100000 in
theorem l_X7_all {ν : Mem} {r k N : Nat} (hr : r < 3) (hk : k < 70) (h0 : ν 0 2 = nI N) (hN : N ≤ 6) {Q : Int32 → Mem → Prop} (hQ : Q (sumF (fun i => ν 2 (440 * r + 70 * i + k)) N) ν) : ∀ d i : Nat, i + d = N → AW shM mX7_all 5 [some (.ref 0), some (.int (nI r)), some (.int (nI k)), some (.int (sumF (fun i => ν 2 (440 * r + 70 * i + k)) i)), some (.int (nI i))] [] ν Q := by
  have m0 : shM[0]? = some (7, 18, [none, some 1, none, none, none, none, none, some 2, some 3, none, none, some 4, none, none, some 5, some 6, some 7, some 8]) := rfl
  have m1 : shM[1]? = some (100, 200, []) := rfl
  have m2 : shM[2]? = some (100, 1320, []) := rfl
  have m3 : shM[3]? = some (100, 1760, []) := rfl
  have m4 : shM[4]? = some (100, 4, []) := rfl
  have m5 : shM[5]? = some (100, 6, []) := rfl
  have m6 : shM[6]? = some (100, 6, []) := rfl
  have m7 : shM[7]? = some (100, 6, []) := rfl
  have m8 : shM[8]? = some (100, 6, []) := rfl
  intro d
  induction d with
  | zero =>
    intro i hd
    refine a_iload (pc := 5) dX7_all_5 rfl ?_
    refine a_aload_n (pc := 7) dX7_all_7 rfl rfl ?_
    refine a_geti (pc := 8) fl_X7_56 (by assumption) (by decide) (by rfl) dX7_all_8 ?_
    refine a_top (y := nI N) h0 ?_
    refine a_icmp_ge (pc := 11) (tgt := 36) dX7_all_11 (by decide) (fun c_11 => ?_) (fun c_11 => ?_)
    · have e : i = N := by omega
      subst e
      refine a_iload_n (pc := 36) dX7_all_36 rfl rfl ?_
      exact a_iret (pc := 37) rfl dX7_all_37 hQ
    · exact absurd (lt_of_not_ge' (by omega) (by omega) c_11) (by omega)
  | succ d ih =>
    intro i hd
    refine a_iload (pc := 5) dX7_all_5 rfl ?_
    refine a_aload_n (pc := 7) dX7_all_7 rfl rfl ?_
    refine a_geti (pc := 8) fl_X7_56 (by assumption) (by decide) (by rfl) dX7_all_8 ?_
    refine a_top (y := nI N) h0 ?_
    refine a_icmp_ge (pc := 11) (tgt := 36) dX7_all_11 (by decide) (fun c_11 => ?_) (fun c_11 => ?_)
    · exact absurd (le_of_ge' (by omega) (by omega) c_11) (by omega)
    · refine a_iload_n (pc := 14) dX7_all_14 rfl rfl ?_
      refine a_aload_n (pc := 15) dX7_all_15 rfl rfl ?_
      refine a_getr (pc := 16) fl_X7_13 (by assumption) (by decide) (by rfl) dX7_all_16 ?_
      refine a_iload_n (pc := 19) dX7_all_19 rfl rfl ?_
      refine a_iload (pc := 20) dX7_all_20 rfl ?_
      refine a_callS2 (pc := 22) cs_X7_52 ⟨(Nat.le_of_ble_eq_true rfl), (Nat.le_of_ble_eq_true rfl)⟩ (Nat.le_of_ble_eq_true rfl) dX7_all_22 rfl c_X7_at ?_
      rintro r_ u ⟨rfl, rfl⟩
      refine a_iload_n (pc := 25) dX7_all_25 rfl rfl ?_
      refine a_iaddN (pc := 26) (a := _) (b := _) rfl rfl dX7_all_26 ?_
      refine a_iald (pc := 27)  (by assumption) rfl (by omega) (by decide) dX7_all_27 ?_
      refine a_iadd (pc := 28) dX7_all_28 ?_
      refine a_istore_n (pc := 29) (al' := [some (.ref _), some (.int _), some (.int _), some (.int _), some (.int _)]) dX7_all_29 rfl (by decide) rfl rfl ?_
      refine a_iincN (pc := 30) (m := 1) (al' := [some (.ref _), some (.int _), some (.int _), some (.int _), some (.int _)]) dX7_all_30 rfl (by decide) rfl rfl ?_
      refine a_goto (pc := 33) (tgt := 5) dX7_all_33 (by decide) ?_
      exact ih (i + 1) (by omega)
set_option maxHeartbeats 4000000 in
set_option maxRecDepth 100000 in
theorem c_X7_all {ν : Mem} {r k N : Nat} (hr : r < 3) (hk : k < 70) (h0 : ν 0 2 = nI N) (hN : N ≤ 6) : Con shM mX7_all [.ref 0, .int (nI r), .int (nI k)] ν (fun q u => q = sumF (fun i => ν 2 (440 * r + 70 * i + k)) N ∧ ν = u) := by
  have m0 : shM[0]? = some (7, 18, [none, some 1, none, none, none, none, none, some 2, some 3, none, none, some 4, none, none, some 5, some 6, some 7, some 8]) := rfl
  have m1 : shM[1]? = some (100, 200, []) := rfl
  have m2 : shM[2]? = some (100, 1320, []) := rfl
  have m3 : shM[3]? = some (100, 1760, []) := rfl
  have m4 : shM[4]? = some (100, 4, []) := rfl
  have m5 : shM[5]? = some (100, 6, []) := rfl
  have m6 : shM[6]? = some (100, 6, []) := rfl
  have m7 : shM[7]? = some (100, 6, []) := rfl
  have m8 : shM[8]? = some (100, 6, []) := rfl
  refine Con.ofAW (al0 := [some (.ref 0), some (.int (nI r)), some (.int (nI k)), none, none]) (by decide) rfl (Nat.le_of_ble_eq_true rfl) rfl ?_
  refine a_iconst (pc := 0) (v := 0) dX7_all_0 (by decide) ?_
  refine a_istore_n (pc := 1) (al' := [some (.ref _), some (.int _), some (.int _), some (.int _), none]) dX7_all_1 rfl (by decide) rfl rfl ?_
  refine a_iconst (pc := 2) (v := 0) dX7_all_2 (by decide) ?_
  refine a_istore (pc := 3) (al' := [some (.ref _), some (.int _), some (.int _), some (.int _), some (.int _)]) dX7_all_3 (by decide) rfl rfl ?_
  exact l_X7_all hr hk h0 hN ⟨rfl, rfl⟩ N 0 (by omega)

def hasP (g : Nat → Int32) (s : Nat) (j : Int32) : Prop := ∃ k, k < s ∧ g k = j
set_option maxHeartbeats 4000000 in
set_option maxRecDepth 100000 in
theorem l_X0_hasOneTo {μ : Mem} {o s : Nat} {j : Int32} (h : isRow o) (hs : μ o 0 = nI s) (hl : s ≤ 6) {Q : Int32 → Mem → Prop} (h1 : hasP (μ (o + 1)) s j → Q 1 μ) (h2 : ¬ hasP (μ (o + 1)) s j → Q 0 μ) : ∀ d i : Nat, i + d = s → (∀ k, k < i → ¬ μ (o + 1) k = j) → AW shC mX0_hasOneTo 2 [some (.ref o), some (.int j), some (.int (nI i))] [] μ Q := by
  obtain ⟨h0, h1', h2'⟩ := id h
  intro d
  induction d with
  | zero =>
    intro i hd hno
    refine a_iload_n (pc := 2) dX0_hasOneTo_2 rfl rfl ?_
    refine a_aload_n (pc := 3) dX0_hasOneTo_3 rfl rfl ?_
    refine a_geti (pc := 4) fl_X0_18 (by assumption) (by decide) (by rfl) dX0_hasOneTo_4 ?_
    refine a_top (y := nI s) hs ?_
    refine a_icmp_ge (pc := 7) (tgt := 28) dX0_hasOneTo_7 (by decide) (fun c_7 => ?_) (fun c_7 => ?_)
    · refine a_iconst (pc := 28) (v := 0) dX0_hasOneTo_28 (by decide) ?_
      refine a_zret (pc := 29) rfl (by rfl) dX0_hasOneTo_29 (h2 ?_)
      rintro ⟨k, k1, k2⟩
      exact hno k (by omega) k2
    · exact absurd (lt_of_not_ge' (by omega) (by omega) c_7) (by omega)
  | succ d ih =>
    intro i hd hno
    refine a_iload_n (pc := 2) dX0_hasOneTo_2 rfl rfl ?_
    refine a_aload_n (pc := 3) dX0_hasOneTo_3 rfl rfl ?_
    refine a_geti (pc := 4) fl_X0_18 (by assumption) (by decide) (by rfl) dX0_hasOneTo_4 ?_
    refine a_top (y := nI s) hs ?_
    refine a_icmp_ge (pc := 7) (tgt := 28) dX0_hasOneTo_7 (by decide) (fun c_7 => ?_) (fun c_7 => ?_)
    · exact absurd (le_of_ge' (by omega) (by omega) c_7) (by omega)
    · refine a_aload_n (pc := 10) dX0_hasOneTo_10 rfl rfl ?_
      refine a_getr (pc := 11) fl_X0_9 (by assumption) (by decide) (by rfl) dX0_hasOneTo_11 ?_
      refine a_iload_n (pc := 14) dX0_hasOneTo_14 rfl rfl ?_
      refine a_iald (pc := 15)  (by assumption) rfl (by omega) (by decide) dX0_hasOneTo_15 ?_
      refine a_iload_n (pc := 16) dX0_hasOneTo_16 rfl rfl ?_
      refine a_icmp_ne (pc := 17) (tgt := 22) dX0_hasOneTo_17 (by decide) (fun c_17 => ?_) (fun c_17 => ?_)
      · refine a_iincN (pc := 22) (m := 1) (al' := [some (.ref _), some (.int _), some (.int _)]) dX0_hasOneTo_22 rfl (by decide) rfl rfl ?_
        refine a_goto (pc := 25) (tgt := 2) dX0_hasOneTo_25 (by decide) ?_
        refine ih (i + 1) (by omega) (fun k hk => ?_)
        by_cases e : k = i
        · rw [e]; exact c_17
        · exact hno k (by omega)
      · refine a_iconst (pc := 20) (v := 1) dX0_hasOneTo_20 (by decide) ?_
        refine a_zret (pc := 21) rfl (by rfl) dX0_hasOneTo_21 ?_
        exact h1 ⟨i, by omega, c_17⟩
set_option maxHeartbeats 4000000 in
set_option maxRecDepth 100000 in
theorem c_X0_hasOneTo {μ : Mem} {o s : Nat} {j : Int32} (h : isRow o) (hs : μ o 0 = nI s) (hl : s ≤ 6) : Con shC mX0_hasOneTo [.ref o, .int j] μ (fun r u => (r = 1 ∧ hasP (μ (o + 1)) s j ∨ r = 0 ∧ ¬ hasP (μ (o + 1)) s j) ∧ μ = u) := by
  refine Con.ofAW (al0 := [some (.ref o), some (.int j), none]) (by decide) rfl (Nat.le_of_ble_eq_true rfl) rfl ?_
  refine a_iconst (pc := 0) (v := 0) dX0_hasOneTo_0 (by decide) ?_
  refine a_istore_n (pc := 1) (al' := [some (.ref _), some (.int _), some (.int _)]) dX0_hasOneTo_1 rfl (by decide) rfl rfl ?_
  exact l_X0_hasOneTo h hs hl (fun q => ⟨Or.inl ⟨rfl, q⟩, rfl⟩) (fun q => ⟨Or.inr ⟨rfl, q⟩, rfl⟩) s 0 (by omega) (fun k hk => by omega)

set_option maxHeartbeats 4000000 in
set_option maxRecDepth 100000 in
theorem l_X7_hasFor {ν : Mem} {a s : Nat} {j : Int32} (ha : a < 6) (hs : ν 2 (440 * 0 + 70 * a + 8) = nI s) (hl : s ≤ 6) {Q : Int32 → Mem → Prop} (h1 : hasP (fun k => ν 2 (440 * 0 + 70 * a + 9 + 2 * k)) s j → Q 1 ν) (h2 : ¬ hasP (fun k => ν 2 (440 * 0 + 70 * a + 9 + 2 * k)) s j → Q 0 ν) : ∀ d i : Nat, i + d = s → ∀ v : Int32, (v = 1 ∧ hasP (fun k => ν 2 (440 * 0 + 70 * a + 9 + 2 * k)) i j ∨ v = 0 ∧ ¬ hasP (fun k => ν 2 (440 * 0 + 70 * a + 9 + 2 * k)) i j) → AW shM mX7_hasFor 5 [some (.ref 0), some (.int (nI a)), some (.int j), some (.int v), some (.int (nI i))] [] ν Q := by
  have m0 : shM[0]? = some (7, 18, [none, some 1, none, none, none, none, none, some 2, some 3, none, none, some 4, none, none, some 5, some 6, some 7, some 8]) := rfl
  have m1 : shM[1]? = some (100, 200, []) := rfl
  have m2 : shM[2]? = some (100, 1320, []) := rfl
  have m3 : shM[3]? = some (100, 1760, []) := rfl
  have m4 : shM[4]? = some (100, 4, []) := rfl
  have m5 : shM[5]? = some (100, 6, []) := rfl
  have m6 : shM[6]? = some (100, 6, []) := rfl
  have m7 : shM[7]? = some (100, 6, []) := rfl
  have m8 : shM[8]? = some (100, 6, []) := rfl
  intro d
  induction d with
  | zero =>
    intro i hd v hv
    refine a_iload (pc := 5) dX7_hasFor_5 rfl ?_
    refine a_aload_n (pc := 7) dX7_hasFor_7 rfl rfl ?_
    refine a_getr (pc := 8) fl_X7_13 (by assumption) (by decide) (by rfl) dX7_hasFor_8 ?_
    refine a_iconst (pc := 11) (v := 0) dX7_hasFor_11 (by decide) ?_
    refine a_iload_n (pc := 12) dX7_hasFor_12 rfl rfl ?_
    refine a_callS2 (pc := 13) cs_X7_52 ⟨(Nat.le_of_ble_eq_true rfl), (Nat.le_of_ble_eq_true rfl)⟩ (Nat.le_of_ble_eq_true rfl) dX7_hasFor_13 rfl (c_X7_at (r := 0)) ?_
    rintro r_ u ⟨rfl, rfl⟩
    refine a_bipush (pc := 16) (v := 8) dX7_hasFor_16 (by decide) ?_
    refine a_iaddN (pc := 18) (a := _) (b := 8) rfl rfl dX7_hasFor_18 ?_
    refine a_iald (pc := 19)  (by assumption) rfl (by omega) (by decide) dX7_hasFor_19 ?_
    refine a_top (y := nI s) hs ?_
    refine a_icmp_ge (pc := 20) (tgt := 61) dX7_hasFor_20 (by decide) (fun c_20 => ?_) (fun c_20 => ?_)
    · refine a_iload_n (pc := 61) dX7_hasFor_61 rfl rfl ?_
      rcases hv with ⟨rfl, k, k1, k2⟩ | ⟨rfl, hno⟩
      · exact a_zret (pc := 62) rfl (by rfl) dX7_hasFor_62 (h1 ⟨k, by omega, k2⟩)
      · refine a_zret (pc := 62) rfl (by rfl) dX7_hasFor_62 (h2 ?_)
        rintro ⟨k, k1, k2⟩
        exact hno ⟨k, by omega, k2⟩
    · exact absurd (lt_of_not_ge' (by omega) (by omega) c_20) (by omega)
  | succ d ih =>
    intro i hd v hv
    refine a_iload (pc := 5) dX7_hasFor_5 rfl ?_
    refine a_aload_n (pc := 7) dX7_hasFor_7 rfl rfl ?_
    refine a_getr (pc := 8) fl_X7_13 (by assumption) (by decide) (by rfl) dX7_hasFor_8 ?_
    refine a_iconst (pc := 11) (v := 0) dX7_hasFor_11 (by decide) ?_
    refine a_iload_n (pc := 12) dX7_hasFor_12 rfl rfl ?_
    refine a_callS2 (pc := 13) cs_X7_52 ⟨(Nat.le_of_ble_eq_true rfl), (Nat.le_of_ble_eq_true rfl)⟩ (Nat.le_of_ble_eq_true rfl) dX7_hasFor_13 rfl (c_X7_at (r := 0)) ?_
    rintro r_ u ⟨rfl, rfl⟩
    refine a_bipush (pc := 16) (v := 8) dX7_hasFor_16 (by decide) ?_
    refine a_iaddN (pc := 18) (a := _) (b := 8) rfl rfl dX7_hasFor_18 ?_
    refine a_iald (pc := 19)  (by assumption) rfl (by omega) (by decide) dX7_hasFor_19 ?_
    refine a_top (y := nI s) hs ?_
    refine a_icmp_ge (pc := 20) (tgt := 61) dX7_hasFor_20 (by decide) (fun c_20 => ?_) (fun c_20 => ?_)
    · exact absurd (le_of_ge' (by omega) (by omega) c_20) (by omega)
    · refine a_iload_n (pc := 23) dX7_hasFor_23 rfl rfl ?_
      refine a_if_ne (pc := 24) (tgt := 49) dX7_hasFor_24 (by decide) (fun c_24 => ?_) (fun c_24 => ?_)
      · refine a_iconst (pc := 49) (v := 1) dX7_hasFor_49 (by decide) ?_
        refine a_goto (pc := 50) (tgt := 54) dX7_hasFor_50 (by decide) ?_
        refine a_istore_n (pc := 54) (al' := [some (.ref _), some (.int _), some (.int _), some (.int _), some (.int _)]) dX7_hasFor_54 rfl (by decide) rfl rfl ?_
        refine a_iincN (pc := 55) (m := 1) (al' := [some (.ref _), some (.int _), some (.int _), some (.int _), some (.int _)]) dX7_hasFor_55 rfl (by decide) rfl rfl ?_
        refine a_goto (pc := 58) (tgt := 5) dX7_hasFor_58 (by decide) ?_
        first
          | exact ih (i + 1) (by omega) _ (Or.inl ⟨rfl, i, by omega, c_46⟩)
          | (refine ih (i + 1) (by omega) _ (Or.inl ⟨rfl, ?_⟩)
             rcases hv with ⟨_, k, k1, k2⟩ | ⟨e, _⟩
             · exact ⟨k, by omega, k2⟩
             · exact absurd e c_24)
          | (refine ih (i + 1) (by omega) _ (Or.inr ⟨rfl, ?_⟩)
             rcases hv with ⟨e, _⟩ | ⟨_, hno⟩
             · exact absurd (e.symm.trans c_24) (by decide)
             · rintro ⟨k, k1, k2⟩
               by_cases e : k = i
               · subst e; exact c_46 k2
               · exact hno ⟨k, by omega, k2⟩)
      · refine a_aload_n (pc := 27) dX7_hasFor_27 rfl rfl ?_
        refine a_getr (pc := 28) fl_X7_13 (by assumption) (by decide) (by rfl) dX7_hasFor_28 ?_
        refine a_iconst (pc := 31) (v := 0) dX7_hasFor_31 (by decide) ?_
        refine a_iload_n (pc := 32) dX7_hasFor_32 rfl rfl ?_
        refine a_callS2 (pc := 33) cs_X7_52 ⟨(Nat.le_of_ble_eq_true rfl), (Nat.le_of_ble_eq_true rfl)⟩ (Nat.le_of_ble_eq_true rfl) dX7_hasFor_33 rfl (c_X7_at (r := 0)) ?_
        rintro r_ u ⟨rfl, rfl⟩
        refine a_bipush (pc := 36) (v := 9) dX7_hasFor_36 (by decide) ?_
        refine a_iaddN (pc := 38) (a := _) (b := 9) rfl rfl dX7_hasFor_38 ?_
        refine a_iconst (pc := 39) (v := 2) dX7_hasFor_39 (by decide) ?_
        refine a_iload (pc := 40) dX7_hasFor_40 rfl ?_
        refine a_imulN (pc := 42) (a := 2) (b := _) rfl rfl dX7_hasFor_42 ?_
        refine a_iaddN (pc := 43) (a := _) (b := _) rfl rfl dX7_hasFor_43 ?_
        refine a_iald (pc := 44)  (by assumption) rfl (by omega) (by decide) dX7_hasFor_44 ?_
        refine a_iload_n (pc := 45) dX7_hasFor_45 rfl rfl ?_
        refine a_icmp_ne (pc := 46) (tgt := 53) dX7_hasFor_46 (by decide) (fun c_46 => ?_) (fun c_46 => ?_)
        · refine a_iconst (pc := 53) (v := 0) dX7_hasFor_53 (by decide) ?_
          refine a_istore_n (pc := 54) (al' := [some (.ref _), some (.int _), some (.int _), some (.int _), some (.int _)]) dX7_hasFor_54 rfl (by decide) rfl rfl ?_
          refine a_iincN (pc := 55) (m := 1) (al' := [some (.ref _), some (.int _), some (.int _), some (.int _), some (.int _)]) dX7_hasFor_55 rfl (by decide) rfl rfl ?_
          refine a_goto (pc := 58) (tgt := 5) dX7_hasFor_58 (by decide) ?_
          first
            | exact ih (i + 1) (by omega) _ (Or.inl ⟨rfl, i, by omega, c_46⟩)
            | (refine ih (i + 1) (by omega) _ (Or.inl ⟨rfl, ?_⟩)
               rcases hv with ⟨_, k, k1, k2⟩ | ⟨e, _⟩
               · exact ⟨k, by omega, k2⟩
               · exact absurd e c_24)
            | (refine ih (i + 1) (by omega) _ (Or.inr ⟨rfl, ?_⟩)
               rcases hv with ⟨e, _⟩ | ⟨_, hno⟩
               · exact absurd (e.symm.trans c_24) (by decide)
               · rintro ⟨k, k1, k2⟩
                 by_cases e : k = i
                 · subst e; exact c_46 k2
                 · exact hno ⟨k, by omega, k2⟩)
        · refine a_iconst (pc := 49) (v := 1) dX7_hasFor_49 (by decide) ?_
          refine a_goto (pc := 50) (tgt := 54) dX7_hasFor_50 (by decide) ?_
          refine a_istore_n (pc := 54) (al' := [some (.ref _), some (.int _), some (.int _), some (.int _), some (.int _)]) dX7_hasFor_54 rfl (by decide) rfl rfl ?_
          refine a_iincN (pc := 55) (m := 1) (al' := [some (.ref _), some (.int _), some (.int _), some (.int _), some (.int _)]) dX7_hasFor_55 rfl (by decide) rfl rfl ?_
          refine a_goto (pc := 58) (tgt := 5) dX7_hasFor_58 (by decide) ?_
          first
            | exact ih (i + 1) (by omega) _ (Or.inl ⟨rfl, i, by omega, c_46⟩)
            | (refine ih (i + 1) (by omega) _ (Or.inl ⟨rfl, ?_⟩)
               rcases hv with ⟨_, k, k1, k2⟩ | ⟨e, _⟩
               · exact ⟨k, by omega, k2⟩
               · exact absurd e c_24)
            | (refine ih (i + 1) (by omega) _ (Or.inr ⟨rfl, ?_⟩)
               rcases hv with ⟨e, _⟩ | ⟨_, hno⟩
               · exact absurd (e.symm.trans c_24) (by decide)
               · rintro ⟨k, k1, k2⟩
                 by_cases e : k = i
                 · subst e; exact c_46 k2
                 · exact hno ⟨k, by omega, k2⟩)
set_option maxHeartbeats 4000000 in
set_option maxRecDepth 100000 in
theorem c_X7_hasFor {ν : Mem} {a s : Nat} {j : Int32} (ha : a < 6) (hs : ν 2 (440 * 0 + 70 * a + 8) = nI s) (hl : s ≤ 6) : Con shM mX7_hasFor [.ref 0, .int (nI a), .int j] ν (fun r u => (r = 1 ∧ hasP (fun k => ν 2 (440 * 0 + 70 * a + 9 + 2 * k)) s j ∨ r = 0 ∧ ¬ hasP (fun k => ν 2 (440 * 0 + 70 * a + 9 + 2 * k)) s j) ∧ ν = u) := by
  have m0 : shM[0]? = some (7, 18, [none, some 1, none, none, none, none, none, some 2, some 3, none, none, some 4, none, none, some 5, some 6, some 7, some 8]) := rfl
  have m1 : shM[1]? = some (100, 200, []) := rfl
  have m2 : shM[2]? = some (100, 1320, []) := rfl
  have m3 : shM[3]? = some (100, 1760, []) := rfl
  have m4 : shM[4]? = some (100, 4, []) := rfl
  have m5 : shM[5]? = some (100, 6, []) := rfl
  have m6 : shM[6]? = some (100, 6, []) := rfl
  have m7 : shM[7]? = some (100, 6, []) := rfl
  have m8 : shM[8]? = some (100, 6, []) := rfl
  refine Con.ofAW (al0 := [some (.ref 0), some (.int (nI a)), some (.int j), none, none]) (by decide) rfl (Nat.le_of_ble_eq_true rfl) rfl ?_
  refine a_iconst (pc := 0) (v := 0) dX7_hasFor_0 (by decide) ?_
  refine a_istore_n (pc := 1) (al' := [some (.ref _), some (.int _), some (.int _), some (.int _), none]) dX7_hasFor_1 rfl (by decide) rfl rfl ?_
  refine a_iconst (pc := 2) (v := 0) dX7_hasFor_2 (by decide) ?_
  refine a_istore (pc := 3) (al' := [some (.ref _), some (.int _), some (.int _), some (.int _), some (.int _)]) dX7_hasFor_3 (by decide) rfl rfl ?_
  exact l_X7_hasFor ha hs hl (fun q => ⟨Or.inl ⟨rfl, q⟩, rfl⟩) (fun q => ⟨Or.inr ⟨rfl, q⟩, rfl⟩) s 0 (by omega) 0 (Or.inr ⟨rfl, fun ⟨k, k1, _⟩ => by omega⟩)

