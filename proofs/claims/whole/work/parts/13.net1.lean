/-! Net: one station at a time -/
def bitF (x j : Int32) : Prop := x >>> (j &&& 31) &&& 1 = 1
set_option maxHeartbeats 4000000 in
set_option maxRecDepth 100000 in
theorem c_X2_hears {μ : Mem} {n i j : Nat} (hn : isNet n) (hi : i < 6) : Con shC mX2_hears [.ref n, .int (nI i), .int (nI j)] μ (fun r u => (r = 1 ∧ bitF (μ (stA n i) 0) (nI j) ∨ r = 0 ∧ ¬ bitF (μ (stA n i) 0) (nI j)) ∧ u = μ) := by
  obtain ⟨hn0, hn1, hn2, hnS⟩ := id hn
  have ws := hnS i hi
  have w0 : shC[(stA n i)]? = _ := ws.1
  have w1 : shC[(stA n i) + 1]? = some (0, 3, [none, some ((stA n i) + 2), some ((stA n i) + 3)]) := ws.2.1.1
  have w2 : shC[(stA n i) + 2]? = some (100, 6, []) := ws.2.1.2.1
  have w3 : shC[(stA n i) + 3]? = some (100, 6, []) := ws.2.1.2.2
  have w4 : shC[(stA n i) + 4]? = some (1, 2, [none, some ((stA n i) + 5)]) := ws.2.2.1.1
  have w5 : shC[(stA n i) + 5]? = some (100, 24, []) := ws.2.2.1.2
  have w6 : shC[(stA n i) + 6]? = some (4, 4, [none, none, none, none]) := ws.2.2.2.1
  have w7 : shC[(stA n i) + 7]? = some (4, 4, [none, none, none, none]) := ws.2.2.2.2
  refine Con.ofAW (al0 := [some (.ref n), some (.int (nI i)), some (.int (nI j))]) (by decide) rfl (Nat.le_of_ble_eq_true rfl) rfl ?_
  refine a_aload_n (pc := 0) dX2_hears_0 rfl rfl ?_
  refine a_getr (pc := 1) fl_X2_17 (by assumption) (by decide) (by rfl) dX2_hears_1 ?_
  refine a_iload_n (pc := 4) dX2_hears_4 rfl rfl ?_
  refine a_aald2 (pc := 5)  (by assumption) rfl (by omega) (by decide) (all_at hi) dX2_hears_5 ?_
  refine a_geti (pc := 6) fl_X2_60 (by assumption) (by decide) (by rfl) dX2_hears_6 ?_
  refine a_iload_n (pc := 9) dX2_hears_9 rfl rfl ?_
  refine a_ishr (pc := 10) dX2_hears_10 ?_
  refine a_iconst (pc := 11) (v := 1) dX2_hears_11 (by decide) ?_
  refine a_iand (pc := 12) dX2_hears_12 ?_
  refine a_iconst (pc := 13) (v := 1) dX2_hears_13 (by decide) ?_
  refine a_icmp_ne (pc := 14) (tgt := 21) dX2_hears_14 (by decide) (fun c_14 => ?_) (fun c_14 => ?_)
  · refine a_iconst (pc := 21) (v := 0) dX2_hears_21 (by decide) ?_
    refine a_zret (pc := 22) rfl (by rfl) dX2_hears_22 ?_
    simp_all [bitF]
  · refine a_iconst (pc := 17) (v := 1) dX2_hears_17 (by decide) ?_
    refine a_goto (pc := 18) (tgt := 22) dX2_hears_18 (by decide) ?_
    refine a_zret (pc := 22) rfl (by rfl) dX2_hears_22 ?_
    simp_all [bitF]

def jonF (μ : Mem) (n i j : Nat) : Mem := up2 (up2 μ (stA n i) 0 (μ (stA n i) 0 ||| (1 <<< (nI j &&& 31)))) (stA n j) 0 (μ (stA n j) 0 ||| (1 <<< (nI i &&& 31)))
def offF (μ : Mem) (n i j : Nat) : Mem := up2 (up2 μ (stA n i) 0 (μ (stA n i) 0 &&& ((1 <<< (nI j &&& 31)) ^^^ (-1)))) (stA n j) 0 (μ (stA n j) 0 &&& ((1 <<< (nI i &&& 31)) ^^^ (-1)))
theorem stA_ne {n i j : Nat} (h : i ≠ j) : stA n i ≠ stA n j := by unfold stA; omega
set_option maxHeartbeats 4000000 in
set_option maxRecDepth 100000 in
theorem c_X2_join1 {μ : Mem} {n i j : Nat} (hn : isNet n) (hi : i < 6) (hj : j < 6) (hij : i ≠ j) : Con shC mX2_join [.ref n, .int (nI i), .int (nI j), .int 1] μ (fun _ u => u = jonF μ n i j) := by
  obtain ⟨hn0, hn1, hn2, hnS⟩ := id hn
  have ws := hnS i hi
  have w0 : shC[(stA n i)]? = _ := ws.1
  have w1 : shC[(stA n i) + 1]? = some (0, 3, [none, some ((stA n i) + 2), some ((stA n i) + 3)]) := ws.2.1.1
  have w2 : shC[(stA n i) + 2]? = some (100, 6, []) := ws.2.1.2.1
  have w3 : shC[(stA n i) + 3]? = some (100, 6, []) := ws.2.1.2.2
  have w4 : shC[(stA n i) + 4]? = some (1, 2, [none, some ((stA n i) + 5)]) := ws.2.2.1.1
  have w5 : shC[(stA n i) + 5]? = some (100, 24, []) := ws.2.2.1.2
  have w6 : shC[(stA n i) + 6]? = some (4, 4, [none, none, none, none]) := ws.2.2.2.1
  have w7 : shC[(stA n i) + 7]? = some (4, 4, [none, none, none, none]) := ws.2.2.2.2
  have vs := hnS j hj
  have v0 : shC[(stA n j)]? = _ := vs.1
  have v1 : shC[(stA n j) + 1]? = some (0, 3, [none, some ((stA n j) + 2), some ((stA n j) + 3)]) := vs.2.1.1
  have v2 : shC[(stA n j) + 2]? = some (100, 6, []) := vs.2.1.2.1
  have v3 : shC[(stA n j) + 3]? = some (100, 6, []) := vs.2.1.2.2
  have v4 : shC[(stA n j) + 4]? = some (1, 2, [none, some ((stA n j) + 5)]) := vs.2.2.1.1
  have v5 : shC[(stA n j) + 5]? = some (100, 24, []) := vs.2.2.1.2
  have v6 : shC[(stA n j) + 6]? = some (4, 4, [none, none, none, none]) := vs.2.2.2.1
  have v7 : shC[(stA n j) + 7]? = some (4, 4, [none, none, none, none]) := vs.2.2.2.2
  refine Con.ofAW (al0 := [some (.ref n), some (.int (nI i)), some (.int (nI j)), some (.int 1)]) (by decide) rfl (Nat.le_of_ble_eq_true rfl) rfl ?_
  refine a_iload_n (pc := 0) dX2_join_0 rfl rfl ?_
  refine a_if_eq (pc := 1) (tgt := 41) dX2_join_1 (by decide) (fun c_1 => ?_) (fun c_1 => ?_)
  · exact absurd c_1 (by decide)
  · refine a_aload_n (pc := 4) dX2_join_4 rfl rfl ?_
    refine a_getr (pc := 5) fl_X2_17 (by assumption) (by decide) (by rfl) dX2_join_5 ?_
    refine a_iload_n (pc := 8) dX2_join_8 rfl rfl ?_
    refine a_aald2 (pc := 9)  (by assumption) rfl (by omega) (by decide) (all_at hi) dX2_join_9 ?_
    refine a_dup (pc := 10) dX2_join_10 rfl ?_
    refine a_geti (pc := 11) fl_X2_60 (by assumption) (by decide) (by rfl) dX2_join_11 ?_
    refine a_iconst (pc := 14) (v := 1) dX2_join_14 (by decide) ?_
    refine a_iload_n (pc := 15) dX2_join_15 rfl rfl ?_
    refine a_ishl (pc := 16) dX2_join_16 ?_
    refine a_ior (pc := 17) dX2_join_17 ?_
    refine a_puti (pc := 18) fp_X2_60 (by assumption) (by decide) (by rfl) dX2_join_18 ?_
    refine a_aload_n (pc := 21) dX2_join_21 rfl rfl ?_
    refine a_getr (pc := 22) fl_X2_17 (by assumption) (by decide) (by rfl) dX2_join_22 ?_
    refine a_iload_n (pc := 25) dX2_join_25 rfl rfl ?_
    refine a_aald2 (pc := 26)  (by assumption) rfl (by omega) (by decide) (all_at hj) dX2_join_26 ?_
    refine a_dup (pc := 27) dX2_join_27 rfl ?_
    refine a_geti (pc := 28) fl_X2_60 (by assumption) (by decide) (by rfl) dX2_join_28 ?_
    refine a_iconst (pc := 31) (v := 1) dX2_join_31 (by decide) ?_
    refine a_iload_n (pc := 32) dX2_join_32 rfl rfl ?_
    refine a_ishl (pc := 33) dX2_join_33 ?_
    refine a_ior (pc := 34) dX2_join_34 ?_
    refine a_puti (pc := 35) fp_X2_60 (by assumption) (by decide) (by rfl) dX2_join_35 ?_
    refine a_goto (pc := 38) (tgt := 79) dX2_join_38 (by decide) ?_
    refine a_vret (pc := 79) rfl dX2_join_79 ?_
    have e1 := stA_ne (n := n) hij
    simp [jonF, up2, upd, e1.symm]

set_option maxHeartbeats 4000000 in
set_option maxRecDepth 100000 in
theorem c_X2_join0 {μ : Mem} {n i j : Nat} (hn : isNet n) (hi : i < 6) (hj : j < 6) (hij : i ≠ j) : Con shC mX2_join [.ref n, .int (nI i), .int (nI j), .int 0] μ (fun _ u => u = offF μ n i j) := by
  obtain ⟨hn0, hn1, hn2, hnS⟩ := id hn
  have ws := hnS i hi
  have w0 : shC[(stA n i)]? = _ := ws.1
  have w1 : shC[(stA n i) + 1]? = some (0, 3, [none, some ((stA n i) + 2), some ((stA n i) + 3)]) := ws.2.1.1
  have w2 : shC[(stA n i) + 2]? = some (100, 6, []) := ws.2.1.2.1
  have w3 : shC[(stA n i) + 3]? = some (100, 6, []) := ws.2.1.2.2
  have w4 : shC[(stA n i) + 4]? = some (1, 2, [none, some ((stA n i) + 5)]) := ws.2.2.1.1
  have w5 : shC[(stA n i) + 5]? = some (100, 24, []) := ws.2.2.1.2
  have w6 : shC[(stA n i) + 6]? = some (4, 4, [none, none, none, none]) := ws.2.2.2.1
  have w7 : shC[(stA n i) + 7]? = some (4, 4, [none, none, none, none]) := ws.2.2.2.2
  have vs := hnS j hj
  have v0 : shC[(stA n j)]? = _ := vs.1
  have v1 : shC[(stA n j) + 1]? = some (0, 3, [none, some ((stA n j) + 2), some ((stA n j) + 3)]) := vs.2.1.1
  have v2 : shC[(stA n j) + 2]? = some (100, 6, []) := vs.2.1.2.1
  have v3 : shC[(stA n j) + 3]? = some (100, 6, []) := vs.2.1.2.2
  have v4 : shC[(stA n j) + 4]? = some (1, 2, [none, some ((stA n j) + 5)]) := vs.2.2.1.1
  have v5 : shC[(stA n j) + 5]? = some (100, 24, []) := vs.2.2.1.2
  have v6 : shC[(stA n j) + 6]? = some (4, 4, [none, none, none, none]) := vs.2.2.2.1
  have v7 : shC[(stA n j) + 7]? = some (4, 4, [none, none, none, none]) := vs.2.2.2.2
  refine Con.ofAW (al0 := [some (.ref n), some (.int (nI i)), some (.int (nI j)), some (.int 0)]) (by decide) rfl (Nat.le_of_ble_eq_true rfl) rfl ?_
  refine a_iload_n (pc := 0) dX2_join_0 rfl rfl ?_
  refine a_if_eq (pc := 1) (tgt := 41) dX2_join_1 (by decide) (fun c_1 => ?_) (fun c_1 => ?_)
  · refine a_aload_n (pc := 41) dX2_join_41 rfl rfl ?_
    refine a_getr (pc := 42) fl_X2_17 (by assumption) (by decide) (by rfl) dX2_join_42 ?_
    refine a_iload_n (pc := 45) dX2_join_45 rfl rfl ?_
    refine a_aald2 (pc := 46)  (by assumption) rfl (by omega) (by decide) (all_at hi) dX2_join_46 ?_
    refine a_dup (pc := 47) dX2_join_47 rfl ?_
    refine a_geti (pc := 48) fl_X2_60 (by assumption) (by decide) (by rfl) dX2_join_48 ?_
    refine a_iconst (pc := 51) (v := 1) dX2_join_51 (by decide) ?_
    refine a_iload_n (pc := 52) dX2_join_52 rfl rfl ?_
    refine a_ishl (pc := 53) dX2_join_53 ?_
    refine a_iconst (pc := 54) (v := -1) dX2_join_54 (by decide) ?_
    refine a_ixor (pc := 55) dX2_join_55 ?_
    refine a_iand (pc := 56) dX2_join_56 ?_
    refine a_puti (pc := 57) fp_X2_60 (by assumption) (by decide) (by rfl) dX2_join_57 ?_
    refine a_aload_n (pc := 60) dX2_join_60 rfl rfl ?_
    refine a_getr (pc := 61) fl_X2_17 (by assumption) (by decide) (by rfl) dX2_join_61 ?_
    refine a_iload_n (pc := 64) dX2_join_64 rfl rfl ?_
    refine a_aald2 (pc := 65)  (by assumption) rfl (by omega) (by decide) (all_at hj) dX2_join_65 ?_
    refine a_dup (pc := 66) dX2_join_66 rfl ?_
    refine a_geti (pc := 67) fl_X2_60 (by assumption) (by decide) (by rfl) dX2_join_67 ?_
    refine a_iconst (pc := 70) (v := 1) dX2_join_70 (by decide) ?_
    refine a_iload_n (pc := 71) dX2_join_71 rfl rfl ?_
    refine a_ishl (pc := 72) dX2_join_72 ?_
    refine a_iconst (pc := 73) (v := -1) dX2_join_73 (by decide) ?_
    refine a_ixor (pc := 74) dX2_join_74 ?_
    refine a_iand (pc := 75) dX2_join_75 ?_
    refine a_puti (pc := 76) fp_X2_60 (by assumption) (by decide) (by rfl) dX2_join_76 ?_
    refine a_vret (pc := 79) rfl dX2_join_79 ?_
    have e1 := stA_ne (n := n) hij
    simp [offF, up2, upd, e1.symm]
  · exact absurd c_1 (by decide)

def nearF (x y j : Int32) : Int32 := if x >>> (j &&& 31) &&& 1 = 1 then 0 else if x &&& y = 0 then 2 else 1
set_option maxHeartbeats 4000000 in
set_option maxRecDepth 100000 in
theorem c_X2_nearness {μ : Mem} {n i j : Nat} (hn : isNet n) (hi : i < 6) (hj : j < 6) : Con shC mX2_nearness [.ref n, .int (nI i), .int (nI j)] μ (fun r u => r = nearF (μ (stA n i) 0) (μ (stA n j) 0) (nI j) ∧ u = μ) := by
  obtain ⟨hn0, hn1, hn2, hnS⟩ := id hn
  have ws := hnS i hi
  have w0 : shC[(stA n i)]? = _ := ws.1
  have w1 : shC[(stA n i) + 1]? = some (0, 3, [none, some ((stA n i) + 2), some ((stA n i) + 3)]) := ws.2.1.1
  have w2 : shC[(stA n i) + 2]? = some (100, 6, []) := ws.2.1.2.1
  have w3 : shC[(stA n i) + 3]? = some (100, 6, []) := ws.2.1.2.2
  have w4 : shC[(stA n i) + 4]? = some (1, 2, [none, some ((stA n i) + 5)]) := ws.2.2.1.1
  have w5 : shC[(stA n i) + 5]? = some (100, 24, []) := ws.2.2.1.2
  have w6 : shC[(stA n i) + 6]? = some (4, 4, [none, none, none, none]) := ws.2.2.2.1
  have w7 : shC[(stA n i) + 7]? = some (4, 4, [none, none, none, none]) := ws.2.2.2.2
  have vs := hnS j hj
  have v0 : shC[(stA n j)]? = _ := vs.1
  have v1 : shC[(stA n j) + 1]? = some (0, 3, [none, some ((stA n j) + 2), some ((stA n j) + 3)]) := vs.2.1.1
  have v2 : shC[(stA n j) + 2]? = some (100, 6, []) := vs.2.1.2.1
  have v3 : shC[(stA n j) + 3]? = some (100, 6, []) := vs.2.1.2.2
  have v4 : shC[(stA n j) + 4]? = some (1, 2, [none, some ((stA n j) + 5)]) := vs.2.2.1.1
  have v5 : shC[(stA n j) + 5]? = some (100, 24, []) := vs.2.2.1.2
  have v6 : shC[(stA n j) + 6]? = some (4, 4, [none, none, none, none]) := vs.2.2.2.1
  have v7 : shC[(stA n j) + 7]? = some (4, 4, [none, none, none, none]) := vs.2.2.2.2
  refine Con.ofAW (al0 := [some (.ref n), some (.int (nI i)), some (.int (nI j))]) (by decide) rfl (Nat.le_of_ble_eq_true rfl) rfl ?_
  refine a_aload_n (pc := 0) dX2_nearness_0 rfl rfl ?_
  refine a_iload_n (pc := 1) dX2_nearness_1 rfl rfl ?_
  refine a_iload_n (pc := 2) dX2_nearness_2 rfl rfl ?_
  refine a_callI2 (pc := 3) ck_X2_63 ⟨(Nat.le_of_ble_eq_true rfl), (Nat.le_of_ble_eq_true rfl)⟩ (by assumption) (by decide) (Nat.le_of_ble_eq_true rfl) dX2_nearness_3 rfl (c_X2_hears hn hi) ?_
  rintro r u ⟨hr, rfl⟩
  refine a_if_eq (pc := 6) (tgt := 11) dX2_nearness_6 (by decide) (fun c_6 => ?_) (fun c_6 => ?_)
  · refine a_aload_n (pc := 11) dX2_nearness_11 rfl rfl ?_
    refine a_getr (pc := 12) fl_X2_17 (by assumption) (by decide) (by rfl) dX2_nearness_12 ?_
    refine a_iload_n (pc := 15) dX2_nearness_15 rfl rfl ?_
    refine a_aald2 (pc := 16)  (by assumption) rfl (by omega) (by decide) (all_at hi) dX2_nearness_16 ?_
    refine a_geti (pc := 17) fl_X2_60 (by assumption) (by decide) (by rfl) dX2_nearness_17 ?_
    refine a_aload_n (pc := 20) dX2_nearness_20 rfl rfl ?_
    refine a_getr (pc := 21) fl_X2_17 (by assumption) (by decide) (by rfl) dX2_nearness_21 ?_
    refine a_iload_n (pc := 24) dX2_nearness_24 rfl rfl ?_
    refine a_aald2 (pc := 25)  (by assumption) rfl (by omega) (by decide) (all_at hj) dX2_nearness_25 ?_
    refine a_geti (pc := 26) fl_X2_60 (by assumption) (by decide) (by rfl) dX2_nearness_26 ?_
    refine a_iand (pc := 29) dX2_nearness_29 ?_
    refine a_if_eq (pc := 30) (tgt := 37) dX2_nearness_30 (by decide) (fun c_30 => ?_) (fun c_30 => ?_)
    · refine a_iconst (pc := 37) (v := 2) dX2_nearness_37 (by decide) ?_
      refine a_iret (pc := 38) rfl dX2_nearness_38 ?_
      simp_all [nearF, bitF]
    · refine a_iconst (pc := 33) (v := 1) dX2_nearness_33 (by decide) ?_
      refine a_goto (pc := 34) (tgt := 38) dX2_nearness_34 (by decide) ?_
      refine a_iret (pc := 38) rfl dX2_nearness_38 ?_
      simp_all [nearF, bitF]
  · refine a_iconst (pc := 9) (v := 0) dX2_nearness_9 (by decide) ?_
    refine a_iret (pc := 10) rfl dX2_nearness_10 ?_
    simp_all [nearF, bitF]

set_option maxHeartbeats 4000000 in
set_option maxRecDepth 100000 in
theorem c_X2_isAsked {μ : Mem} {n : Nat} {l : Int32} (hn : isNet n) : Con shC mX2_isAsked [.ref n, .int l] μ (fun r u => r = (if l < μ n 3 then 0 else 1) ∧ u = μ) := by
  obtain ⟨hn0, hn1, hn2, hnS⟩ := id hn
  refine Con.ofAW (al0 := [some (.ref n), some (.int l)]) (by decide) rfl (Nat.le_of_ble_eq_true rfl) rfl ?_
  refine a_iload_n (pc := 0) dX2_isAsked_0 rfl rfl ?_
  refine a_aload_n (pc := 1) dX2_isAsked_1 rfl rfl ?_
  refine a_geti (pc := 2) fl_X2_32 (by assumption) (by decide) (by rfl) dX2_isAsked_2 ?_
  refine a_icmp_lt (pc := 5) (tgt := 12) dX2_isAsked_5 (by decide) (fun c_5 => ?_) (fun c_5 => ?_)
  · refine a_iconst (pc := 12) (v := 0) dX2_isAsked_12 (by decide) ?_
    refine a_zret (pc := 13) rfl (by rfl) dX2_isAsked_13 ?_
    simp_all [-Int32.not_lt, -Int32.not_le]
  · refine a_iconst (pc := 8) (v := 1) dX2_isAsked_8 (by decide) ?_
    refine a_goto (pc := 9) (tgt := 13) dX2_isAsked_9 (by decide) ?_
    refine a_zret (pc := 13) rfl (by rfl) dX2_isAsked_13 ?_
    simp_all [-Int32.not_lt, -Int32.not_le]

def remF (x y : Int32) : Int32 := x - x / y * y
def drnL (z i k : Int32) : Int64 := 7919 * z.toInt64 + 6151 * i.toInt64 + 3571 * k.toInt64 + 1
def drnF (z i k : Int32) : Int32 := (drnL z i k * drnL z i k - drnL z i k * drnL z i k / 65521 * 65521).toInt32
set_option maxHeartbeats 4000000 in
set_option maxRecDepth 100000 in
theorem c_X6_drawnNumber {sh : Shp} {μ : Mem} {z i k : Int32} : Con sh mX6_drawnNumber [.int z, .int i, .int k] μ (fun r u => r = drnF z i k ∧ u = μ) := by
  refine Con.ofAW (al0 := [some (.int z), some (.int i), some (.int k), none, none]) (by decide) rfl (Nat.le_of_ble_eq_true rfl) rfl ?_
  refine a_ldc2 (pc := 0) dX6_drawnNumber_0 kc_X6_229 ?_
  refine a_iload_n (pc := 3) dX6_drawnNumber_3 rfl rfl ?_
  refine a_i2l (pc := 4) dX6_drawnNumber_4 ?_
  refine a_lmul (pc := 5) dX6_drawnNumber_5 ?_
  refine a_ldc2 (pc := 6) dX6_drawnNumber_6 kc_X6_231 ?_
  refine a_iload_n (pc := 9) dX6_drawnNumber_9 rfl rfl ?_
  refine a_i2l (pc := 10) dX6_drawnNumber_10 ?_
  refine a_lmul (pc := 11) dX6_drawnNumber_11 ?_
  refine a_ladd (pc := 12) dX6_drawnNumber_12 ?_
  refine a_ldc2 (pc := 13) dX6_drawnNumber_13 kc_X6_233 ?_
  refine a_iload_n (pc := 16) dX6_drawnNumber_16 rfl rfl ?_
  refine a_i2l (pc := 17) dX6_drawnNumber_17 ?_
  refine a_lmul (pc := 18) dX6_drawnNumber_18 ?_
  refine a_ladd (pc := 19) dX6_drawnNumber_19 ?_
  refine a_lconst (pc := 20) (v := 1) dX6_drawnNumber_20 (by decide) ?_
  refine a_ladd (pc := 21) dX6_drawnNumber_21 ?_
  refine a_lstore_n (pc := 22) (al' := [some (.int _), some (.int _), some (.int _), some (.long _), none]) dX6_drawnNumber_22 rfl (by decide) rfl rfl ?_
  refine a_lload_n (pc := 23) dX6_drawnNumber_23 rfl rfl ?_
  refine a_lload_n (pc := 24) dX6_drawnNumber_24 rfl rfl ?_
  refine a_lmul (pc := 25) dX6_drawnNumber_25 ?_
  refine a_ldc2 (pc := 26) dX6_drawnNumber_26 kc_X6_235 ?_
  refine a_lrem (pc := 29) dX6_drawnNumber_29 (by decide) ?_
  refine a_l2i (pc := 30) dX6_drawnNumber_30 ?_
  refine a_iret (pc := 31) rfl dX6_drawnNumber_31 ?_
  exact ⟨rfl, rfl⟩

def dwF (μ : Mem) (n i : Nat) : Mem := if μ (stA n i + 1) 0 = 0 ∨ ¬ 1 ≤ μ (stA n i) 1 then up2 μ (stA n i) 3 0 else up2 (up2 μ (stA n i) 3 (remF (drnF (μ n 5) (nI i) (μ (stA n i) 8)) (μ (stA n i) 1))) (stA n i) 8 (μ (stA n i) 8 + 1)
theorem pos_ne0 {x : Int32} (h : 1 ≤ x) : ¬ x = 0 := by rintro rfl; exact absurd h (by decide)
set_option maxHeartbeats 4000000 in
set_option maxRecDepth 100000 in
theorem c_X2_drawWait {μ : Mem} {n i : Nat} (hn : isNet n) (hi : i < 6) : Con shC mX2_drawWait [.ref n, .int (nI i)] μ (fun _ u => u = dwF μ n i) := by
  obtain ⟨hn0, hn1, hn2, hnS⟩ := id hn
  have ws := hnS i hi
  have w0 : shC[(stA n i)]? = _ := ws.1
  have w1 : shC[(stA n i) + 1]? = some (0, 3, [none, some ((stA n i) + 2), some ((stA n i) + 3)]) := ws.2.1.1
  have w2 : shC[(stA n i) + 2]? = some (100, 6, []) := ws.2.1.2.1
  have w3 : shC[(stA n i) + 3]? = some (100, 6, []) := ws.2.1.2.2
  have w4 : shC[(stA n i) + 4]? = some (1, 2, [none, some ((stA n i) + 5)]) := ws.2.2.1.1
  have w5 : shC[(stA n i) + 5]? = some (100, 24, []) := ws.2.2.1.2
  have w6 : shC[(stA n i) + 6]? = some (4, 4, [none, none, none, none]) := ws.2.2.2.1
  have w7 : shC[(stA n i) + 7]? = some (4, 4, [none, none, none, none]) := ws.2.2.2.2
  refine Con.ofAW (al0 := [some (.ref n), some (.int (nI i)), none]) (by decide) rfl (Nat.le_of_ble_eq_true rfl) rfl ?_
  refine a_aload_n (pc := 0) dX2_drawWait_0 rfl rfl ?_
  refine a_getr (pc := 1) fl_X2_17 (by assumption) (by decide) (by rfl) dX2_drawWait_1 ?_
  refine a_iload_n (pc := 4) dX2_drawWait_4 rfl rfl ?_
  refine a_aald2 (pc := 5)  (by assumption) rfl (by omega) (by decide) (all_at hi) dX2_drawWait_5 ?_
  refine a_astore_n (pc := 6) (al' := [some (.ref _), some (.int _), some (.ref _)]) dX2_drawWait_6 rfl (by decide) rfl rfl ?_
  refine a_aload_n (pc := 7) dX2_drawWait_7 rfl rfl ?_
  refine a_getr (pc := 8) fl_X2_81 (by assumption) (by decide) (by rfl) dX2_drawWait_8 ?_
  refine a_geti (pc := 11) fl_X2_85 (by assumption) (by decide) (by rfl) dX2_drawWait_11 ?_
  refine a_if_eq (pc := 14) (tgt := 25) dX2_drawWait_14 (by decide) (fun c_14 => ?_) (fun c_14 => ?_)
  · refine a_aload_n (pc := 25) dX2_drawWait_25 rfl rfl ?_
    refine a_iconst (pc := 26) (v := 0) dX2_drawWait_26 (by decide) ?_
    refine a_puti (pc := 27) fp_X2_90 (by assumption) (by decide) (by rfl) dX2_drawWait_27 ?_
    refine a_vret (pc := 30) rfl dX2_drawWait_30 ?_
    simp_all [dwF, remF, up2, upd, -Int32.not_lt, -Int32.not_le]
  · refine a_aload_n (pc := 17) dX2_drawWait_17 rfl rfl ?_
    refine a_geti (pc := 18) fl_X2_74 (by assumption) (by decide) (by rfl) dX2_drawWait_18 ?_
    refine a_iconst (pc := 21) (v := 1) dX2_drawWait_21 (by decide) ?_
    refine a_icmp_ge (pc := 22) (tgt := 31) dX2_drawWait_22 (by decide) (fun c_22 => ?_) (fun c_22 => ?_)
    · refine a_aload_n (pc := 31) dX2_drawWait_31 rfl rfl ?_
      refine a_aload_n (pc := 32) dX2_drawWait_32 rfl rfl ?_
      refine a_geti (pc := 33) fl_X2_38 (by assumption) (by decide) (by rfl) dX2_drawWait_33 ?_
      refine a_iload_n (pc := 36) dX2_drawWait_36 rfl rfl ?_
      refine a_aload_n (pc := 37) dX2_drawWait_37 rfl rfl ?_
      refine a_geti (pc := 38) fl_X2_93 (by assumption) (by decide) (by rfl) dX2_drawWait_38 ?_
      refine a_callN3 (pc := 41) rfl ⟨(Nat.le_of_ble_eq_true rfl), (Nat.le_of_ble_eq_true rfl)⟩ (Nat.le_of_ble_eq_true rfl) dX2_drawWait_41 c_X6_drawnNumber ?_
      rintro r u ⟨rfl, rfl⟩
      refine a_aload_n (pc := 44) dX2_drawWait_44 rfl rfl ?_
      refine a_geti (pc := 45) fl_X2_74 (by assumption) (by decide) (by rfl) dX2_drawWait_45 ?_
      refine a_irem (pc := 48) dX2_drawWait_48 (pos_ne0 c_22) ?_
      refine a_puti (pc := 49) fp_X2_90 (by assumption) (by decide) (by rfl) dX2_drawWait_49 ?_
      refine a_aload_n (pc := 52) dX2_drawWait_52 rfl rfl ?_
      refine a_dup (pc := 53) dX2_drawWait_53 rfl ?_
      refine a_geti (pc := 54) fl_X2_93 (by assumption) (by decide) (by rfl) dX2_drawWait_54 ?_
      refine a_iconst (pc := 57) (v := 1) dX2_drawWait_57 (by decide) ?_
      refine a_iadd (pc := 58) dX2_drawWait_58 ?_
      refine a_puti (pc := 59) fp_X2_93 (by assumption) (by decide) (by rfl) dX2_drawWait_59 ?_
      refine a_vret (pc := 62) rfl dX2_drawWait_62 ?_
      simp_all [dwF, remF, up2, upd, -Int32.not_lt, -Int32.not_le]
    · refine a_aload_n (pc := 25) dX2_drawWait_25 rfl rfl ?_
      refine a_iconst (pc := 26) (v := 0) dX2_drawWait_26 (by decide) ?_
      refine a_puti (pc := 27) fp_X2_90 (by assumption) (by decide) (by rfl) dX2_drawWait_27 ?_
      refine a_vret (pc := 30) rfl dX2_drawWait_30 ?_
      simp_all [dwF, remF, up2, upd, -Int32.not_lt, -Int32.not_le]

def mbP (μ : Mem) (n x : Nat) : Prop := ¬ μ n 6 + 1 ≤ μ x 4 ∧ μ n 7 &&& μ x 0 = 0 ∧ μ x 9 = 0 ∧ ¬ μ (x + 1) 0 ≤ 0
set_option maxHeartbeats 4000000 in
set_option maxRecDepth 100000 in
theorem c_X2_mayBegin {μ : Mem} {n x : Nat} (hn : isNet n) (ws : isSt x) : Con shC mX2_mayBegin [.ref n, .ref x] μ (fun r u => (r = 1 ∧ mbP μ n x ∨ r = 0 ∧ ¬ mbP μ n x) ∧ u = μ) := by
  obtain ⟨hn0, hn1, hn2, hnS⟩ := id hn
  have w0 : shC[x]? = _ := ws.1
  have w1 : shC[x + 1]? = some (0, 3, [none, some (x + 2), some (x + 3)]) := ws.2.1.1
  have w2 : shC[x + 2]? = some (100, 6, []) := ws.2.1.2.1
  have w3 : shC[x + 3]? = some (100, 6, []) := ws.2.1.2.2
  have w4 : shC[x + 4]? = some (1, 2, [none, some (x + 5)]) := ws.2.2.1.1
  have w5 : shC[x + 5]? = some (100, 24, []) := ws.2.2.1.2
  have w6 : shC[x + 6]? = some (4, 4, [none, none, none, none]) := ws.2.2.2.1
  have w7 : shC[x + 7]? = some (4, 4, [none, none, none, none]) := ws.2.2.2.2
  refine Con.ofAW (al0 := [some (.ref n), some (.ref x), none]) (by decide) rfl (Nat.le_of_ble_eq_true rfl) rfl ?_
  refine a_aload_n (pc := 0) dX2_mayBegin_0 rfl rfl ?_
  refine a_geti (pc := 1) fl_X2_41 (by assumption) (by decide) (by rfl) dX2_mayBegin_1 ?_
  refine a_iconst (pc := 4) (v := 1) dX2_mayBegin_4 (by decide) ?_
  refine a_iadd (pc := 5) dX2_mayBegin_5 ?_
  refine a_aload_n (pc := 6) dX2_mayBegin_6 rfl rfl ?_
  refine a_geti (pc := 7) fl_X2_100 (by assumption) (by decide) (by rfl) dX2_mayBegin_7 ?_
  refine a_icmp_le (pc := 10) (tgt := 29) dX2_mayBegin_10 (by decide) (fun c_10 => ?_) (fun c_10 => ?_)
  · refine a_iconst (pc := 29) (v := 0) dX2_mayBegin_29 (by decide) ?_
    refine a_istore_n (pc := 30) (al' := [some (.ref _), some (.ref _), some (.int _)]) dX2_mayBegin_30 rfl (by decide) rfl rfl ?_
    refine a_iload_n (pc := 31) dX2_mayBegin_31 rfl rfl ?_
    refine a_if_eq (pc := 32) (tgt := 56) dX2_mayBegin_32 (by decide) (fun c_32 => ?_) (fun c_32 => ?_)
    · refine a_iconst (pc := 56) (v := 0) dX2_mayBegin_56 (by decide) ?_
      refine a_zret (pc := 57) rfl (by rfl) dX2_mayBegin_57 ?_
      simp_all [mbP, -Int32.not_lt, -Int32.not_le]
    · exact absurd c_32 (by decide)
  · refine a_aload_n (pc := 13) dX2_mayBegin_13 rfl rfl ?_
    refine a_geti (pc := 14) fl_X2_44 (by assumption) (by decide) (by rfl) dX2_mayBegin_14 ?_
    refine a_aload_n (pc := 17) dX2_mayBegin_17 rfl rfl ?_
    refine a_geti (pc := 18) fl_X2_60 (by assumption) (by decide) (by rfl) dX2_mayBegin_18 ?_
    refine a_iand (pc := 21) dX2_mayBegin_21 ?_
    refine a_if_ne (pc := 22) (tgt := 29) dX2_mayBegin_22 (by decide) (fun c_22 => ?_) (fun c_22 => ?_)
    · refine a_iconst (pc := 29) (v := 0) dX2_mayBegin_29 (by decide) ?_
      refine a_istore_n (pc := 30) (al' := [some (.ref _), some (.ref _), some (.int _)]) dX2_mayBegin_30 rfl (by decide) rfl rfl ?_
      refine a_iload_n (pc := 31) dX2_mayBegin_31 rfl rfl ?_
      refine a_if_eq (pc := 32) (tgt := 56) dX2_mayBegin_32 (by decide) (fun c_32 => ?_) (fun c_32 => ?_)
      · refine a_iconst (pc := 56) (v := 0) dX2_mayBegin_56 (by decide) ?_
        refine a_zret (pc := 57) rfl (by rfl) dX2_mayBegin_57 ?_
        simp_all [mbP, -Int32.not_lt, -Int32.not_le]
      · exact absurd c_32 (by decide)
    · refine a_iconst (pc := 25) (v := 1) dX2_mayBegin_25 (by decide) ?_
      refine a_goto (pc := 26) (tgt := 30) dX2_mayBegin_26 (by decide) ?_
      refine a_istore_n (pc := 30) (al' := [some (.ref _), some (.ref _), some (.int _)]) dX2_mayBegin_30 rfl (by decide) rfl rfl ?_
      refine a_iload_n (pc := 31) dX2_mayBegin_31 rfl rfl ?_
      refine a_if_eq (pc := 32) (tgt := 56) dX2_mayBegin_32 (by decide) (fun c_32 => ?_) (fun c_32 => ?_)
      · exact absurd c_32 (by decide)
      · refine a_aload_n (pc := 35) dX2_mayBegin_35 rfl rfl ?_
        refine a_geti (pc := 36) fl_X2_103 (by assumption) (by decide) (by rfl) dX2_mayBegin_36 ?_
        refine a_if_ne (pc := 39) (tgt := 56) dX2_mayBegin_39 (by decide) (fun c_39 => ?_) (fun c_39 => ?_)
        · refine a_iconst (pc := 56) (v := 0) dX2_mayBegin_56 (by decide) ?_
          refine a_zret (pc := 57) rfl (by rfl) dX2_mayBegin_57 ?_
          simp_all [mbP, -Int32.not_lt, -Int32.not_le]
        · refine a_aload_n (pc := 42) dX2_mayBegin_42 rfl rfl ?_
          refine a_getr (pc := 43) fl_X2_81 (by assumption) (by decide) (by rfl) dX2_mayBegin_43 ?_
          refine a_geti (pc := 46) fl_X2_85 (by assumption) (by decide) (by rfl) dX2_mayBegin_46 ?_
          refine a_if_le (pc := 49) (tgt := 56) dX2_mayBegin_49 (by decide) (fun c_49 => ?_) (fun c_49 => ?_)
          · refine a_iconst (pc := 56) (v := 0) dX2_mayBegin_56 (by decide) ?_
            refine a_zret (pc := 57) rfl (by rfl) dX2_mayBegin_57 ?_
            simp_all [mbP, -Int32.not_lt, -Int32.not_le]
          · refine a_iconst (pc := 52) (v := 1) dX2_mayBegin_52 (by decide) ?_
            refine a_goto (pc := 53) (tgt := 57) dX2_mayBegin_53 (by decide) ?_
            refine a_zret (pc := 57) rfl (by rfl) dX2_mayBegin_57 ?_
            simp_all [mbP, -Int32.not_lt, -Int32.not_le]

def ktsP (μ : Mem) (n x : Nat) (r : Int32) : Prop := (μ (x + 6) 0 ≠ 0 ∧ r = μ (x + 6) 0) ∨ (μ (x + 6) 0 = 0 ∧ μ x 10 ≠ 0 ∧ r = 3) ∨ (μ (x + 6) 0 = 0 ∧ μ x 10 = 0 ∧ (0 < μ x 3 ∨ ¬ mbP μ n x) ∧ r = 0) ∨ (μ (x + 6) 0 = 0 ∧ μ x 10 = 0 ∧ ¬ 0 < μ x 3 ∧ mbP μ n x ∧ r = (if μ (x + 3) 0 < μ n 3 then 3 else 1))
set_option maxHeartbeats 4000000 in
set_option maxRecDepth 100000 in
theorem c_X2_kindToSend {μ : Mem} {n x : Nat} (hn : isNet n) (ws : isSt x) : Con shC mX2_kindToSend [.ref n, .ref x] μ (fun r u => ktsP μ n x r ∧ u = μ) := by
  obtain ⟨hn0, hn1, hn2, hnS⟩ := id hn
  have w0 : shC[x]? = _ := ws.1
  have w1 : shC[x + 1]? = some (0, 3, [none, some (x + 2), some (x + 3)]) := ws.2.1.1
  have w2 : shC[x + 2]? = some (100, 6, []) := ws.2.1.2.1
  have w3 : shC[x + 3]? = some (100, 6, []) := ws.2.1.2.2
  have w4 : shC[x + 4]? = some (1, 2, [none, some (x + 5)]) := ws.2.2.1.1
  have w5 : shC[x + 5]? = some (100, 24, []) := ws.2.2.1.2
  have w6 : shC[x + 6]? = some (4, 4, [none, none, none, none]) := ws.2.2.2.1
  have w7 : shC[x + 7]? = some (4, 4, [none, none, none, none]) := ws.2.2.2.2
  refine Con.ofAW (al0 := [some (.ref n), some (.ref x)]) (by decide) rfl (Nat.le_of_ble_eq_true rfl) rfl ?_
  refine a_aload_n (pc := 0) dX2_kindToSend_0 rfl rfl ?_
  refine a_getr (pc := 1) fl_X2_106 (by assumption) (by decide) (by rfl) dX2_kindToSend_1 ?_
  refine a_geti (pc := 4) fl_X2_110 (by assumption) (by decide) (by rfl) dX2_kindToSend_4 ?_
  refine a_if_eq (pc := 7) (tgt := 18) dX2_kindToSend_7 (by decide) (fun c_7 => ?_) (fun c_7 => ?_)
  · refine a_aload_n (pc := 18) dX2_kindToSend_18 rfl rfl ?_
    refine a_geti (pc := 19) fl_X2_115 (by assumption) (by decide) (by rfl) dX2_kindToSend_19 ?_
    refine a_if_eq (pc := 22) (tgt := 27) dX2_kindToSend_22 (by decide) (fun c_22 => ?_) (fun c_22 => ?_)
    · refine a_aload_n (pc := 27) dX2_kindToSend_27 rfl rfl ?_
      refine a_geti (pc := 28) fl_X2_90 (by assumption) (by decide) (by rfl) dX2_kindToSend_28 ?_
      refine a_if_gt (pc := 31) (tgt := 42) dX2_kindToSend_31 (by decide) (fun c_31 => ?_) (fun c_31 => ?_)
      · refine a_iconst (pc := 42) (v := 0) dX2_kindToSend_42 (by decide) ?_
        refine a_iret (pc := 43) rfl dX2_kindToSend_43 ?_
        simp_all [ktsP, -Int32.not_lt, -Int32.not_le]
      · refine a_aload_n (pc := 34) dX2_kindToSend_34 rfl rfl ?_
        refine a_aload_n (pc := 35) dX2_kindToSend_35 rfl rfl ?_
        refine a_callI1 (pc := 36) ck_X2_119 ⟨(Nat.le_of_ble_eq_true rfl), (Nat.le_of_ble_eq_true rfl)⟩ (by assumption) (by decide) (Nat.le_of_ble_eq_true rfl) dX2_kindToSend_36 rfl (c_X2_mayBegin hn ws) ?_
        rintro r u ⟨hr, rfl⟩
        refine a_if_ne (pc := 39) (tgt := 44) dX2_kindToSend_39 (by decide) (fun c_39 => ?_) (fun c_39 => ?_)
        · refine a_aload_n (pc := 44) dX2_kindToSend_44 rfl rfl ?_
          refine a_aload_n (pc := 45) dX2_kindToSend_45 rfl rfl ?_
          refine a_getr (pc := 46) fl_X2_81 (by assumption) (by decide) (by rfl) dX2_kindToSend_46 ?_
          refine a_getr (pc := 49) fl_X2_123 (by assumption) (by decide) (by rfl) dX2_kindToSend_49 ?_
          refine a_iconst (pc := 52) (v := 0) dX2_kindToSend_52 (by decide) ?_
          refine a_iald (pc := 53) (j := 0) (by assumption) rfl (by omega) (by decide) dX2_kindToSend_53 ?_
          refine a_callI1 (pc := 54) ck_X2_126 ⟨(Nat.le_of_ble_eq_true rfl), (Nat.le_of_ble_eq_true rfl)⟩ (by assumption) (by decide) (Nat.le_of_ble_eq_true rfl) dX2_kindToSend_54 rfl (c_X2_isAsked hn) ?_
          rintro r u ⟨rfl, rfl⟩
          refine a_if_eq (pc := 57) (tgt := 64) dX2_kindToSend_57 (by decide) (fun c_57 => ?_) (fun c_57 => ?_)
          · refine a_iconst (pc := 64) (v := 3) dX2_kindToSend_64 (by decide) ?_
            refine a_iret (pc := 65) rfl dX2_kindToSend_65 ?_
            simp_all [ktsP, -Int32.not_lt, -Int32.not_le]
          · refine a_iconst (pc := 60) (v := 1) dX2_kindToSend_60 (by decide) ?_
            refine a_goto (pc := 61) (tgt := 65) dX2_kindToSend_61 (by decide) ?_
            refine a_iret (pc := 65) rfl dX2_kindToSend_65 ?_
            simp_all [ktsP, -Int32.not_lt, -Int32.not_le]
        · refine a_iconst (pc := 42) (v := 0) dX2_kindToSend_42 (by decide) ?_
          refine a_iret (pc := 43) rfl dX2_kindToSend_43 ?_
          simp_all [ktsP, -Int32.not_lt, -Int32.not_le]
    · refine a_iconst (pc := 25) (v := 3) dX2_kindToSend_25 (by decide) ?_
      refine a_iret (pc := 26) rfl dX2_kindToSend_26 ?_
      simp_all [ktsP, -Int32.not_lt, -Int32.not_le]
  · refine a_aload_n (pc := 10) dX2_kindToSend_10 rfl rfl ?_
    refine a_getr (pc := 11) fl_X2_106 (by assumption) (by decide) (by rfl) dX2_kindToSend_11 ?_
    refine a_geti (pc := 14) fl_X2_110 (by assumption) (by decide) (by rfl) dX2_kindToSend_14 ?_
    refine a_iret (pc := 17) rfl dX2_kindToSend_17 ?_
    simp_all [ktsP, -Int32.not_lt, -Int32.not_le]

def lowF (x : Int32) : Int32 := if ¬ x >>> (0 &&& 31) &&& 1 = 0 then 0 else if ¬ x >>> (1 &&& 31) &&& 1 = 0 then 1 else if ¬ x >>> (2 &&& 31) &&& 1 = 0 then 2 else if ¬ x >>> (3 &&& 31) &&& 1 = 0 then 3 else if ¬ x >>> (4 &&& 31) &&& 1 = 0 then 4 else 5
set_option maxHeartbeats 4000000 in
set_option maxRecDepth 100000 in
theorem c_X2_lowestOf {μ : Mem} {n : Nat} {x : Int32} : Con shC mX2_lowestOf [.ref n, .int x] μ (fun r u => r = lowF x ∧ u = μ) := by
  refine Con.ofAW (al0 := [some (.ref n), some (.int x), none]) (by decide) rfl (Nat.le_of_ble_eq_true rfl) rfl ?_
  refine a_iconst (pc := 0) (v := 0) dX2_lowestOf_0 (by decide) ?_
  refine a_istore_n (pc := 1) (al' := [some (.ref _), some (.int _), some (.int _)]) dX2_lowestOf_1 rfl (by decide) rfl rfl ?_
  refine a_iload_n (pc := 2) dX2_lowestOf_2 rfl rfl ?_
  refine a_iconst (pc := 3) (v := 5) dX2_lowestOf_3 (by decide) ?_
  refine a_icmp_ge (pc := 4) (tgt := 21) dX2_lowestOf_4 (by decide) (fun c_4 => ?_) (fun c_4 => ?_)
  · exact absurd c_4 (by decide)
  · refine a_iload_n (pc := 7) dX2_lowestOf_7 rfl rfl ?_
    refine a_iload_n (pc := 8) dX2_lowestOf_8 rfl rfl ?_
    refine a_ishr (pc := 9) dX2_lowestOf_9 ?_
    refine a_iconst (pc := 10) (v := 1) dX2_lowestOf_10 (by decide) ?_
    refine a_iand (pc := 11) dX2_lowestOf_11 ?_
    refine a_if_ne (pc := 12) (tgt := 21) dX2_lowestOf_12 (by decide) (fun c_12 => ?_) (fun c_12 => ?_)
    · refine a_iload_n (pc := 21) dX2_lowestOf_21 rfl rfl ?_
      refine a_iret (pc := 22) rfl dX2_lowestOf_22 ?_
      refine ⟨?_, rfl⟩
      simp_all [lowF]
    · refine a_iinc (pc := 15) (v := 1) (al' := [some (.ref _), some (.int _), some (.int _)]) dX2_lowestOf_15 rfl (by decide) (by decide) rfl rfl ?_
      refine a_goto (pc := 18) (tgt := 2) dX2_lowestOf_18 (by decide) ?_
      refine a_iload_n (pc := 2) dX2_lowestOf_2 rfl rfl ?_
      refine a_iconst (pc := 3) (v := 5) dX2_lowestOf_3 (by decide) ?_
      refine a_icmp_ge (pc := 4) (tgt := 21) dX2_lowestOf_4 (by decide) (fun c_4 => ?_) (fun c_4 => ?_)
      · exact absurd c_4 (by decide)
      · refine a_iload_n (pc := 7) dX2_lowestOf_7 rfl rfl ?_
        refine a_iload_n (pc := 8) dX2_lowestOf_8 rfl rfl ?_
        refine a_ishr (pc := 9) dX2_lowestOf_9 ?_
        refine a_iconst (pc := 10) (v := 1) dX2_lowestOf_10 (by decide) ?_
        refine a_iand (pc := 11) dX2_lowestOf_11 ?_
        refine a_if_ne (pc := 12) (tgt := 21) dX2_lowestOf_12 (by decide) (fun c_12 => ?_) (fun c_12 => ?_)
        · refine a_iload_n (pc := 21) dX2_lowestOf_21 rfl rfl ?_
          refine a_iret (pc := 22) rfl dX2_lowestOf_22 ?_
          refine ⟨?_, rfl⟩
          simp_all [lowF]
        · refine a_iinc (pc := 15) (v := 2) (al' := [some (.ref _), some (.int _), some (.int _)]) dX2_lowestOf_15 rfl (by decide) (by decide) rfl rfl ?_
          refine a_goto (pc := 18) (tgt := 2) dX2_lowestOf_18 (by decide) ?_
          refine a_iload_n (pc := 2) dX2_lowestOf_2 rfl rfl ?_
          refine a_iconst (pc := 3) (v := 5) dX2_lowestOf_3 (by decide) ?_
          refine a_icmp_ge (pc := 4) (tgt := 21) dX2_lowestOf_4 (by decide) (fun c_4 => ?_) (fun c_4 => ?_)
          · exact absurd c_4 (by decide)
          · refine a_iload_n (pc := 7) dX2_lowestOf_7 rfl rfl ?_
            refine a_iload_n (pc := 8) dX2_lowestOf_8 rfl rfl ?_
            refine a_ishr (pc := 9) dX2_lowestOf_9 ?_
            refine a_iconst (pc := 10) (v := 1) dX2_lowestOf_10 (by decide) ?_
            refine a_iand (pc := 11) dX2_lowestOf_11 ?_
            refine a_if_ne (pc := 12) (tgt := 21) dX2_lowestOf_12 (by decide) (fun c_12 => ?_) (fun c_12 => ?_)
            · refine a_iload_n (pc := 21) dX2_lowestOf_21 rfl rfl ?_
              refine a_iret (pc := 22) rfl dX2_lowestOf_22 ?_
              refine ⟨?_, rfl⟩
              simp_all [lowF]
            · refine a_iinc (pc := 15) (v := 3) (al' := [some (.ref _), some (.int _), some (.int _)]) dX2_lowestOf_15 rfl (by decide) (by decide) rfl rfl ?_
              refine a_goto (pc := 18) (tgt := 2) dX2_lowestOf_18 (by decide) ?_
              refine a_iload_n (pc := 2) dX2_lowestOf_2 rfl rfl ?_
              refine a_iconst (pc := 3) (v := 5) dX2_lowestOf_3 (by decide) ?_
              refine a_icmp_ge (pc := 4) (tgt := 21) dX2_lowestOf_4 (by decide) (fun c_4 => ?_) (fun c_4 => ?_)
              · exact absurd c_4 (by decide)
              · refine a_iload_n (pc := 7) dX2_lowestOf_7 rfl rfl ?_
                refine a_iload_n (pc := 8) dX2_lowestOf_8 rfl rfl ?_
                refine a_ishr (pc := 9) dX2_lowestOf_9 ?_
                refine a_iconst (pc := 10) (v := 1) dX2_lowestOf_10 (by decide) ?_
                refine a_iand (pc := 11) dX2_lowestOf_11 ?_
                refine a_if_ne (pc := 12) (tgt := 21) dX2_lowestOf_12 (by decide) (fun c_12 => ?_) (fun c_12 => ?_)
                · refine a_iload_n (pc := 21) dX2_lowestOf_21 rfl rfl ?_
                  refine a_iret (pc := 22) rfl dX2_lowestOf_22 ?_
                  refine ⟨?_, rfl⟩
                  simp_all [lowF]
                · refine a_iinc (pc := 15) (v := 4) (al' := [some (.ref _), some (.int _), some (.int _)]) dX2_lowestOf_15 rfl (by decide) (by decide) rfl rfl ?_
                  refine a_goto (pc := 18) (tgt := 2) dX2_lowestOf_18 (by decide) ?_
                  refine a_iload_n (pc := 2) dX2_lowestOf_2 rfl rfl ?_
                  refine a_iconst (pc := 3) (v := 5) dX2_lowestOf_3 (by decide) ?_
                  refine a_icmp_ge (pc := 4) (tgt := 21) dX2_lowestOf_4 (by decide) (fun c_4 => ?_) (fun c_4 => ?_)
                  · exact absurd c_4 (by decide)
                  · refine a_iload_n (pc := 7) dX2_lowestOf_7 rfl rfl ?_
                    refine a_iload_n (pc := 8) dX2_lowestOf_8 rfl rfl ?_
                    refine a_ishr (pc := 9) dX2_lowestOf_9 ?_
                    refine a_iconst (pc := 10) (v := 1) dX2_lowestOf_10 (by decide) ?_
                    refine a_iand (pc := 11) dX2_lowestOf_11 ?_
                    refine a_if_ne (pc := 12) (tgt := 21) dX2_lowestOf_12 (by decide) (fun c_12 => ?_) (fun c_12 => ?_)
                    · refine a_iload_n (pc := 21) dX2_lowestOf_21 rfl rfl ?_
                      refine a_iret (pc := 22) rfl dX2_lowestOf_22 ?_
                      refine ⟨?_, rfl⟩
                      simp_all [lowF]
                    · refine a_iinc (pc := 15) (v := 5) (al' := [some (.ref _), some (.int _), some (.int _)]) dX2_lowestOf_15 rfl (by decide) (by decide) rfl rfl ?_
                      refine a_goto (pc := 18) (tgt := 2) dX2_lowestOf_18 (by decide) ?_
                      refine a_iload_n (pc := 2) dX2_lowestOf_2 rfl rfl ?_
                      refine a_iconst (pc := 3) (v := 5) dX2_lowestOf_3 (by decide) ?_
                      refine a_icmp_ge (pc := 4) (tgt := 21) dX2_lowestOf_4 (by decide) (fun c_4 => ?_) (fun c_4 => ?_)
                      · refine a_iload_n (pc := 21) dX2_lowestOf_21 rfl rfl ?_
                        refine a_iret (pc := 22) rfl dX2_lowestOf_22 ?_
                        refine ⟨?_, rfl⟩
                        simp_all [lowF]
                      · exact absurd c_4 (by decide)

def popN (m : Nat) : Nat := m % 2 + m / 2 % 2 + m / 4 % 2 + m / 8 % 2 + m / 16 % 2 + m / 32 % 2
set_option maxHeartbeats 4000000 in
set_option maxRecDepth 100000 in
theorem c_J6_bitCount {sh : Shp} {μ : Mem} {m : Nat} (hm : m < 64) : Con sh mJ6_bitCount_0f7a4 [.int (nI m)] μ (fun r u => r = nI (popN m) ∧ u = μ) := by
  refine Con.ofAW (al0 := [some (.int (nI m))]) (by decide) rfl (Nat.le_of_ble_eq_true rfl) rfl ?_
  refine a_iload_n (pc := 0) dJ6_bitCount_0f7a4_0 rfl rfl ?_
  refine a_iload_n (pc := 1) dJ6_bitCount_0f7a4_1 rfl rfl ?_
  refine a_iconst (pc := 2) (v := 1) dJ6_bitCount_0f7a4_2 (by decide) ?_
  refine a_iushr (pc := 3) dJ6_bitCount_0f7a4_3 rfl ?_
  refine a_ldcw (pc := 4) dJ6_bitCount_0f7a4_4 kc_J6_265 ?_
  refine a_iand (pc := 7) dJ6_bitCount_0f7a4_7 ?_
  refine a_isub (pc := 8) dJ6_bitCount_0f7a4_8 ?_
  refine a_istore_n (pc := 9) (al' := [some (.int _)]) dJ6_bitCount_0f7a4_9 rfl (by decide) rfl rfl ?_
  refine a_iload_n (pc := 10) dJ6_bitCount_0f7a4_10 rfl rfl ?_
  refine a_ldcw (pc := 11) dJ6_bitCount_0f7a4_11 kc_J6_266 ?_
  refine a_iand (pc := 14) dJ6_bitCount_0f7a4_14 ?_
  refine a_iload_n (pc := 15) dJ6_bitCount_0f7a4_15 rfl rfl ?_
  refine a_iconst (pc := 16) (v := 2) dJ6_bitCount_0f7a4_16 (by decide) ?_
  refine a_iushr (pc := 17) dJ6_bitCount_0f7a4_17 rfl ?_
  refine a_ldcw (pc := 18) dJ6_bitCount_0f7a4_18 kc_J6_266 ?_
  refine a_iand (pc := 21) dJ6_bitCount_0f7a4_21 ?_
  refine a_iadd (pc := 22) dJ6_bitCount_0f7a4_22 ?_
  refine a_istore_n (pc := 23) (al' := [some (.int _)]) dJ6_bitCount_0f7a4_23 rfl (by decide) rfl rfl ?_
  refine a_iload_n (pc := 24) dJ6_bitCount_0f7a4_24 rfl rfl ?_
  refine a_iload_n (pc := 25) dJ6_bitCount_0f7a4_25 rfl rfl ?_
  refine a_iconst (pc := 26) (v := 4) dJ6_bitCount_0f7a4_26 (by decide) ?_
  refine a_iushr (pc := 27) dJ6_bitCount_0f7a4_27 rfl ?_
  refine a_iadd (pc := 28) dJ6_bitCount_0f7a4_28 ?_
  refine a_ldcw (pc := 29) dJ6_bitCount_0f7a4_29 kc_J6_267 ?_
  refine a_iand (pc := 32) dJ6_bitCount_0f7a4_32 ?_
  refine a_istore_n (pc := 33) (al' := [some (.int _)]) dJ6_bitCount_0f7a4_33 rfl (by decide) rfl rfl ?_
  refine a_iload_n (pc := 34) dJ6_bitCount_0f7a4_34 rfl rfl ?_
  refine a_iload_n (pc := 35) dJ6_bitCount_0f7a4_35 rfl rfl ?_
  refine a_bipush (pc := 36) (v := 8) dJ6_bitCount_0f7a4_36 (by decide) ?_
  refine a_iushr (pc := 38) dJ6_bitCount_0f7a4_38 rfl ?_
  refine a_iadd (pc := 39) dJ6_bitCount_0f7a4_39 ?_
  refine a_istore_n (pc := 40) (al' := [some (.int _)]) dJ6_bitCount_0f7a4_40 rfl (by decide) rfl rfl ?_
  refine a_iload_n (pc := 41) dJ6_bitCount_0f7a4_41 rfl rfl ?_
  refine a_iload_n (pc := 42) dJ6_bitCount_0f7a4_42 rfl rfl ?_
  refine a_bipush (pc := 43) (v := 16) dJ6_bitCount_0f7a4_43 (by decide) ?_
  refine a_iushr (pc := 45) dJ6_bitCount_0f7a4_45 rfl ?_
  refine a_iadd (pc := 46) dJ6_bitCount_0f7a4_46 ?_
  refine a_istore_n (pc := 47) (al' := [some (.int _)]) dJ6_bitCount_0f7a4_47 rfl (by decide) rfl rfl ?_
  refine a_iload_n (pc := 48) dJ6_bitCount_0f7a4_48 rfl rfl ?_
  refine a_bipush (pc := 49) (v := 63) dJ6_bitCount_0f7a4_49 (by decide) ?_
  refine a_iand (pc := 51) dJ6_bitCount_0f7a4_51 ?_
  refine a_iret (pc := 52) rfl dJ6_bitCount_0f7a4_52 ?_
  refine ⟨?_, rfl⟩
  revert hm m
  decide +kernel
