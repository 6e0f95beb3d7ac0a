/-! pairs; who is a station -/
def ndC (μ : Mem) (n : Nat) (w : Int32) : Nat → Nat → Bool := fun i j => decide (nearF (μ (stA n i) 0) (μ (stA n j) 0) (nI j) = w)
def ndR (f : Nat → Int32) (w : Int32) : Nat → Nat → Bool := fun i j => decide (nearF (f (420 + i)) (f (420 + j)) (nI j) = w)
set_option maxHeartbeats 4000000 in
set_option maxRecDepth 100000 in
theorem l_X2_pairs2 {μ : Mem} {n N i : Nat} {w : Int32} (hn : isNet n) (h0 : μ n 0 = nI N) (hN : N ≤ 6) (hi : i < 6) {Q : Int32 → Mem → Prop} (hQ : AW shC mX2_pairsOf 46 [some (.ref n), some (.int w), some (.int (nI (ouC (ndC μ n w) N i + inC (ndC μ n w) i N))), some (.int (nI i)), some (.int (nI N))] [] μ Q) : ∀ d j : Nat, j + d = N → i < j → AW shC mX2_pairsOf 17 [some (.ref n), some (.int w), some (.int (nI (ouC (ndC μ n w) N i + inC (ndC μ n w) i j))), some (.int (nI i)), some (.int (nI j))] [] μ Q := by
  obtain ⟨hn0, hn1, hn2, hnS⟩ := id hn
  intro d
  induction d with
  | zero =>
    intro j hd hij
    refine a_iload (pc := 17) dX2_pairsOf_17 rfl ?_
    refine a_aload_n (pc := 19) dX2_pairsOf_19 rfl rfl ?_
    refine a_geti (pc := 20) fl_X2_22 (by assumption) (by decide) (by rfl) dX2_pairsOf_20 ?_
    refine a_top (y := nI N) h0 ?_
    refine a_icmp_ge (pc := 23) (tgt := 46) dX2_pairsOf_23 (by decide) (fun c_23 => ?_) (fun c_23 => ?_)
    · have e : j = N := by omega
      subst e
      exact hQ
    · exact absurd (lt_of_not_ge' (a := j) (b := N) (by omega) (by omega) c_23) (by omega)
  | succ d ih =>
    intro j hd hij
    refine a_iload (pc := 17) dX2_pairsOf_17 rfl ?_
    refine a_aload_n (pc := 19) dX2_pairsOf_19 rfl rfl ?_
    refine a_geti (pc := 20) fl_X2_22 (by assumption) (by decide) (by rfl) dX2_pairsOf_20 ?_
    refine a_top (y := nI N) h0 ?_
    refine a_icmp_ge (pc := 23) (tgt := 46) dX2_pairsOf_23 (by decide) (fun c_23 => ?_) (fun c_23 => ?_)
    · exact absurd (le_of_ge' (a := j) (b := N) (by omega) (by omega) c_23) (by omega)
    · refine a_aload_n (pc := 26) dX2_pairsOf_26 rfl rfl ?_
      refine a_iload_n (pc := 27) dX2_pairsOf_27 rfl rfl ?_
      refine a_iload (pc := 28) dX2_pairsOf_28 rfl ?_
      refine a_callI2 (pc := 30) ck_X2_66 ⟨(Nat.le_of_ble_eq_true rfl), (Nat.le_of_ble_eq_true rfl)⟩ (by assumption) (by decide) (Nat.le_of_ble_eq_true rfl) dX2_pairsOf_30 rfl (c_X2_nearness hn hi (by omega)) ?_
      rintro r u ⟨rfl, rfl⟩
      refine a_iload_n (pc := 33) dX2_pairsOf_33 rfl rfl ?_
      refine a_icmp_ne (pc := 34) (tgt := 40) dX2_pairsOf_34 (by decide) (fun c_34 => ?_) (fun c_34 => ?_)
      · refine a_iincN (pc := 40) (m := 1) (al' := [some (.ref _), some (.int _), some (.int _), some (.int _), some (.int _)]) dX2_pairsOf_40 rfl (by decide) rfl rfl ?_
        refine a_goto (pc := 43) (tgt := 17) dX2_pairsOf_43 (by decide) ?_
        refine AW.cast (ih (j + 1) (by omega) (by omega)) rfl ?_ rfl rfl
        simp_all [inC, ndC, Nat.add_assoc]
      · refine a_iincN (pc := 37) (m := 1) (al' := [some (.ref _), some (.int _), some (.int _), some (.int _), some (.int _)]) dX2_pairsOf_37 rfl (by decide) rfl rfl ?_
        refine a_iincN (pc := 40) (m := 1) (al' := [some (.ref _), some (.int _), some (.int _), some (.int _), some (.int _)]) dX2_pairsOf_40 rfl (by decide) rfl rfl ?_
        refine a_goto (pc := 43) (tgt := 17) dX2_pairsOf_43 (by decide) ?_
        refine AW.cast (ih (j + 1) (by omega) (by omega)) rfl ?_ rfl rfl
        simp_all [inC, ndC, Nat.add_assoc]
set_option maxHeartbeats 4000000 in
set_option maxRecDepth 100000 in
theorem l_X2_pairs {μ : Mem} {n N : Nat} {w : Int32} (hn : isNet n) (h0 : μ n 0 = nI N) (hN : N ≤ 6) {Q : Int32 → Mem → Prop} (hQ : Q (nI (ouC (ndC μ n w) N N)) μ) : ∀ d i : Nat, i + d = N → ∀ v4 : Option Value, AW shC mX2_pairsOf 4 [some (.ref n), some (.int w), some (.int (nI (ouC (ndC μ n w) N i))), some (.int (nI i)), v4] [] μ Q := by
  obtain ⟨hn0, hn1, hn2, hnS⟩ := id hn
  intro d
  induction d with
  | zero =>
    intro i hd v4
    refine a_iload_n (pc := 4) dX2_pairsOf_4 rfl rfl ?_
    refine a_aload_n (pc := 5) dX2_pairsOf_5 rfl rfl ?_
    refine a_geti (pc := 6) fl_X2_22 (by assumption) (by decide) (by rfl) dX2_pairsOf_6 ?_
    refine a_top (y := nI N) h0 ?_
    refine a_icmp_ge (pc := 9) (tgt := 52) dX2_pairsOf_9 (by decide) (fun c_9 => ?_) (fun c_9 => ?_)
    · have e : i = N := by omega
      subst e
      refine a_iload_n (pc := 52) dX2_pairsOf_52 rfl rfl ?_
      exact a_iret (pc := 53) rfl dX2_pairsOf_53 hQ
    · exact absurd (lt_of_not_ge' (a := i) (b := N) (by omega) (by omega) c_9) (by omega)
  | succ d ih =>
    intro i hd v4
    refine a_iload_n (pc := 4) dX2_pairsOf_4 rfl rfl ?_
    refine a_aload_n (pc := 5) dX2_pairsOf_5 rfl rfl ?_
    refine a_geti (pc := 6) fl_X2_22 (by assumption) (by decide) (by rfl) dX2_pairsOf_6 ?_
    refine a_top (y := nI N) h0 ?_
    refine a_icmp_ge (pc := 9) (tgt := 52) dX2_pairsOf_9 (by decide) (fun c_9 => ?_) (fun c_9 => ?_)
    · exact absurd (le_of_ge' (a := i) (b := N) (by omega) (by omega) c_9) (by omega)
    · refine a_iload_n (pc := 12) dX2_pairsOf_12 rfl rfl ?_
      refine a_iconst (pc := 13) (v := 1) dX2_pairsOf_13 (by decide) ?_
      refine a_iaddN (pc := 14) (a := _) (b := 1) rfl rfl dX2_pairsOf_14 ?_
      refine a_istore (pc := 15) (al' := [some (.ref _), some (.int _), some (.int _), some (.int _), some (.int _)]) dX2_pairsOf_15 (by decide) rfl rfl ?_
      refine AW.cast (al := [some (.ref n), some (.int w), some (.int (nI (ouC (ndC μ n w) N i + inC (ndC μ n w) i (i + 1)))), some (.int (nI i)), some (.int (nI (i + 1)))]) (l_X2_pairs2 hn h0 hN (by omega) ?_ (N - (i + 1)) (i + 1) (by omega) (by omega)) rfl (by rw [inC_le (i + 1) (Nat.le_refl _)]; rfl) rfl rfl
      refine a_iincN (pc := 46) (m := 1) (al' := [some (.ref _), some (.int _), some (.int _), some (.int _), some (.int _)]) dX2_pairsOf_46 rfl (by decide) rfl rfl ?_
      refine a_goto (pc := 49) (tgt := 4) dX2_pairsOf_49 (by decide) ?_
      exact ih (i + 1) (by omega) _
set_option maxHeartbeats 4000000 in
set_option maxRecDepth 100000 in
theorem c_X2_pairsOf {μ : Mem} {n N : Nat} {w : Int32} (hn : isNet n) (h0 : μ n 0 = nI N) (hN : N ≤ 6) : Con shC mX2_pairsOf [.ref n, .int w] μ (fun r u => r = nI (ouC (ndC μ n w) N N) ∧ μ = u) := by
  refine Con.ofAW (al0 := [some (.ref n), some (.int w), none, none, none]) (by decide) rfl (Nat.le_of_ble_eq_true rfl) rfl ?_
  refine a_iconst (pc := 0) (v := 0) dX2_pairsOf_0 (by decide) ?_
  refine a_istore_n (pc := 1) (al' := [some (.ref _), some (.int _), some (.int _), none, none]) dX2_pairsOf_1 rfl (by decide) rfl rfl ?_
  refine a_iconst (pc := 2) (v := 0) dX2_pairsOf_2 (by decide) ?_
  refine a_istore_n (pc := 3) (al' := [some (.ref _), some (.int _), some (.int _), some (.int _), none]) dX2_pairsOf_3 rfl (by decide) rfl rfl ?_
  exact l_X2_pairs hn h0 hN ⟨rfl, rfl⟩ N 0 (by omega) _

set_option maxHeartbeats 4000000 in
set_option maxRecDepth 100000 in
theorem c_X7_pairOf {ν : Mem} {i j : Nat} (hi : i < 6) (hj : j < 6) : Con shM mX7_pairOf [.ref 0, .int (nI i), .int (nI j)] ν (fun q u => q = nearF (ν 2 (420 + i)) (ν 2 (420 + j)) (nI j) ∧ ν = u) := by
  have m0 : shM[0]? = some (7, 18, [none, some 1, none, none, none, none, none, some 2, some 3, none, none, some 4, none, none, some 5, some 6, some 7, some 8]) := rfl
  have m1 : shM[1]? = some (100, 200, []) := rfl
  have m2 : shM[2]? = some (100, 1320, []) := rfl
  have m3 : shM[3]? = some (100, 1760, []) := rfl
  have m4 : shM[4]? = some (100, 4, []) := rfl
  have m5 : shM[5]? = some (100, 6, []) := rfl
  have m6 : shM[6]? = some (100, 6, []) := rfl
  have m7 : shM[7]? = some (100, 6, []) := rfl
  have m8 : shM[8]? = some (100, 6, []) := rfl
  refine Con.ofAW (al0 := [some (.ref 0), some (.int (nI i)), some (.int (nI j))]) (by decide) rfl (Nat.le_of_ble_eq_true rfl) rfl ?_
  refine a_aload_n (pc := 0) dX7_pairOf_0 rfl rfl ?_
  refine a_getr (pc := 1) fl_X7_13 (by assumption) (by decide) (by rfl) dX7_pairOf_1 ?_
  refine a_sipush (pc := 4) (v := 420) dX7_pairOf_4 (by decide) ?_
  refine a_iload_n (pc := 7) dX7_pairOf_7 rfl rfl ?_
  refine a_iaddN (pc := 8) (a := 420) (b := _) rfl rfl dX7_pairOf_8 ?_
  refine a_iald (pc := 9)  (by assumption) rfl (by omega) (by decide) dX7_pairOf_9 ?_
  refine a_iload_n (pc := 10) dX7_pairOf_10 rfl rfl ?_
  refine a_callS2 (pc := 11) cs_X7_105 ⟨(Nat.le_of_ble_eq_true rfl), (Nat.le_of_ble_eq_true rfl)⟩ (Nat.le_of_ble_eq_true rfl) dX7_pairOf_11 rfl c_X7_has ?_
  rintro q_ u ⟨hq, rfl⟩
  refine a_if_eq (pc := 14) (tgt := 21) dX7_pairOf_14 (by decide) (fun c_14 => ?_) (fun c_14 => ?_)
  · refine a_aload_n (pc := 21) dX7_pairOf_21 rfl rfl ?_
    refine a_getr (pc := 22) fl_X7_13 (by assumption) (by decide) (by rfl) dX7_pairOf_22 ?_
    refine a_sipush (pc := 25) (v := 420) dX7_pairOf_25 (by decide) ?_
    refine a_iload_n (pc := 28) dX7_pairOf_28 rfl rfl ?_
    refine a_iaddN (pc := 29) (a := 420) (b := _) rfl rfl dX7_pairOf_29 ?_
    refine a_iald (pc := 30)  (by assumption) rfl (by omega) (by decide) dX7_pairOf_30 ?_
    refine a_aload_n (pc := 31) dX7_pairOf_31 rfl rfl ?_
    refine a_getr (pc := 32) fl_X7_13 (by assumption) (by decide) (by rfl) dX7_pairOf_32 ?_
    refine a_sipush (pc := 35) (v := 420) dX7_pairOf_35 (by decide) ?_
    refine a_iload_n (pc := 38) dX7_pairOf_38 rfl rfl ?_
    refine a_iaddN (pc := 39) (a := 420) (b := _) rfl rfl dX7_pairOf_39 ?_
    refine a_iald (pc := 40)  (by assumption) rfl (by omega) (by decide) dX7_pairOf_40 ?_
    refine a_iand (pc := 41) dX7_pairOf_41 ?_
    refine a_if_eq (pc := 42) (tgt := 49) dX7_pairOf_42 (by decide) (fun c_42 => ?_) (fun c_42 => ?_)
    · refine a_iconst (pc := 49) (v := 2) dX7_pairOf_49 (by decide) ?_
      refine a_iret (pc := 50) rfl dX7_pairOf_50 ?_
      simp_all [nearF, bitF]
    · refine a_iconst (pc := 45) (v := 1) dX7_pairOf_45 (by decide) ?_
      refine a_goto (pc := 46) (tgt := 50) dX7_pairOf_46 (by decide) ?_
      refine a_iret (pc := 50) rfl dX7_pairOf_50 ?_
      simp_all [nearF, bitF]
  · refine a_iconst (pc := 17) (v := 0) dX7_pairOf_17 (by decide) ?_
    refine a_goto (pc := 18) (tgt := 50) dX7_pairOf_18 (by decide) ?_
    refine a_iret (pc := 50) rfl dX7_pairOf_50 ?_
    simp_all [nearF, bitF]

set_option maxHeartbeats 4000000 in
set_option maxRecDepth 100000 in
theorem l_X7_pairs2 {ν : Mem} {N i : Nat} {w : Int32} (hi : i < 6) {Q : Int32 → Mem → Prop} (hQ : AW shM mX7_pairs 46 [some (.ref 0), some (.int w), some (.int (nI (ouR (ndR (ν 2) w) i + inR (ndR (ν 2) w) i i))), some (.int (nI i)), some (.int (nI i))] [] ν Q) : ∀ d j : Nat, j + d = i → AW shM mX7_pairs 15 [some (.ref 0), some (.int w), some (.int (nI (ouR (ndR (ν 2) w) i + inR (ndR (ν 2) w) i j))), some (.int (nI i)), some (.int (nI j))] [] ν Q := by
  have m0 : shM[0]? = some (7, 18, [none, some 1, none, none, none, none, none, some 2, some 3, none, none, some 4, none, none, some 5, some 6, some 7, some 8]) := rfl
  have m1 : shM[1]? = some (100, 200, []) := rfl
  have m2 : shM[2]? = some (100, 1320, []) := rfl
  have m3 : shM[3]? = some (100, 1760, []) := rfl
  have m4 : shM[4]? = some (100, 4, []) := rfl
  have m5 : shM[5]? = some (100, 6, []) := rfl
  have m6 : shM[6]? = some (100, 6, []) := rfl
  have m7 : shM[7]? = some (100, 6, []) := rfl
  have m8 : shM[8]? = some (100, 6, []) := rfl
  intro d
  induction d with
  | zero =>
    intro j hd
    refine a_iload (pc := 15) dX7_pairs_15 rfl ?_
    refine a_iload_n (pc := 17) dX7_pairs_17 rfl rfl ?_
    refine a_icmp_ge (pc := 18) (tgt := 46) dX7_pairs_18 (by decide) (fun c_18 => ?_) (fun c_18 => ?_)
    · have e : j = i := by omega
      subst e
      exact hQ
    · exact absurd (lt_of_not_ge' (a := j) (b := i) (by omega) (by omega) c_18) (by omega)
  | succ d ih =>
    intro j hd
    refine a_iload (pc := 15) dX7_pairs_15 rfl ?_
    refine a_iload_n (pc := 17) dX7_pairs_17 rfl rfl ?_
    refine a_icmp_ge (pc := 18) (tgt := 46) dX7_pairs_18 (by decide) (fun c_18 => ?_) (fun c_18 => ?_)
    · exact absurd (le_of_ge' (a := j) (b := i) (by omega) (by omega) c_18) (by omega)
    · refine a_iload_n (pc := 21) dX7_pairs_21 rfl rfl ?_
      refine a_aload_n (pc := 22) dX7_pairs_22 rfl rfl ?_
      refine a_iload_n (pc := 23) dX7_pairs_23 rfl rfl ?_
      refine a_iload (pc := 24) dX7_pairs_24 rfl ?_
      refine a_callI2 (pc := 26) ck_X7_184 ⟨(Nat.le_of_ble_eq_true rfl), (Nat.le_of_ble_eq_true rfl)⟩ (by assumption) (by decide) (Nat.le_of_ble_eq_true rfl) dX7_pairs_26 rfl (c_X7_pairOf hi (by omega)) ?_
      rintro r u ⟨rfl, rfl⟩
      refine a_iload_n (pc := 29) dX7_pairs_29 rfl rfl ?_
      refine a_icmp_ne (pc := 30) (tgt := 37) dX7_pairs_30 (by decide) (fun c_30 => ?_) (fun c_30 => ?_)
      · refine a_iconst (pc := 37) (v := 0) dX7_pairs_37 (by decide) ?_
        refine a_iaddN (pc := 38) (a := _) (b := 0) rfl rfl dX7_pairs_38 ?_
        refine a_istore_n (pc := 39) (al' := [some (.ref _), some (.int _), some (.int _), some (.int _), some (.int _)]) dX7_pairs_39 rfl (by decide) rfl rfl ?_
        refine a_iincN (pc := 40) (m := 1) (al' := [some (.ref _), some (.int _), some (.int _), some (.int _), some (.int _)]) dX7_pairs_40 rfl (by decide) rfl rfl ?_
        refine a_goto (pc := 43) (tgt := 15) dX7_pairs_43 (by decide) ?_
        refine AW.cast (ih (j + 1) (by omega)) rfl ?_ rfl rfl
        simp_all [inR, ndR, Nat.add_assoc]
      · refine a_iconst (pc := 33) (v := 1) dX7_pairs_33 (by decide) ?_
        refine a_goto (pc := 34) (tgt := 38) dX7_pairs_34 (by decide) ?_
        refine a_iaddN (pc := 38) (a := _) (b := 1) rfl rfl dX7_pairs_38 ?_
        refine a_istore_n (pc := 39) (al' := [some (.ref _), some (.int _), some (.int _), some (.int _), some (.int _)]) dX7_pairs_39 rfl (by decide) rfl rfl ?_
        refine a_iincN (pc := 40) (m := 1) (al' := [some (.ref _), some (.int _), some (.int _), some (.int _), some (.int _)]) dX7_pairs_40 rfl (by decide) rfl rfl ?_
        refine a_goto (pc := 43) (tgt := 15) dX7_pairs_43 (by decide) ?_
        refine AW.cast (ih (j + 1) (by omega)) rfl ?_ rfl rfl
        simp_all [inR, ndR, Nat.add_assoc]
set_option maxHeartbeats 4000000 in
set_option maxRecDepth 100000 in
theorem l_X7_pairs {ν : Mem} {N : Nat} {w : Int32} (h0 : ν 0 2 = nI N) (hN : N ≤ 6) {Q : Int32 → Mem → Prop} (hQ : Q (nI (ouR (ndR (ν 2) w) N)) ν) : ∀ d i : Nat, i + d = N → ∀ v4 : Option Value, AW shM mX7_pairs 4 [some (.ref 0), some (.int w), some (.int (nI (ouR (ndR (ν 2) w) i))), some (.int (nI i)), v4] [] ν Q := by
  have m0 : shM[0]? = some (7, 18, [none, some 1, none, none, none, none, none, some 2, some 3, none, none, some 4, none, none, some 5, some 6, some 7, some 8]) := rfl
  have m1 : shM[1]? = some (100, 200, []) := rfl
  have m2 : shM[2]? = some (100, 1320, []) := rfl
  have m3 : shM[3]? = some (100, 1760, []) := rfl
  have m4 : shM[4]? = some (100, 4, []) := rfl
  have m5 : shM[5]? = some (100, 6, []) := rfl
  have m6 : shM[6]? = some (100, 6, []) := rfl
  have m7 : shM[7]? = some (100, 6, []) := rfl
  have m8 : shM[8]? = some (100, 6, []) := rfl
  intro d
  induction d with
  | zero =>
    intro i hd v4
    refine a_iload_n (pc := 4) dX7_pairs_4 rfl rfl ?_
    refine a_aload_n (pc := 5) dX7_pairs_5 rfl rfl ?_
    refine a_geti (pc := 6) fl_X7_56 (by assumption) (by decide) (by rfl) dX7_pairs_6 ?_
    refine a_top (y := nI N) h0 ?_
    refine a_icmp_ge (pc := 9) (tgt := 52) dX7_pairs_9 (by decide) (fun c_9 => ?_) (fun c_9 => ?_)
    · have e : i = N := by omega
      subst e
      refine a_iload_n (pc := 52) dX7_pairs_52 rfl rfl ?_
      exact a_iret (pc := 53) rfl dX7_pairs_53 hQ
    · exact absurd (lt_of_not_ge' (a := i) (b := N) (by omega) (by omega) c_9) (by omega)
  | succ d ih =>
    intro i hd v4
    refine a_iload_n (pc := 4) dX7_pairs_4 rfl rfl ?_
    refine a_aload_n (pc := 5) dX7_pairs_5 rfl rfl ?_
    refine a_geti (pc := 6) fl_X7_56 (by assumption) (by decide) (by rfl) dX7_pairs_6 ?_
    refine a_top (y := nI N) h0 ?_
    refine a_icmp_ge (pc := 9) (tgt := 52) dX7_pairs_9 (by decide) (fun c_9 => ?_) (fun c_9 => ?_)
    · exact absurd (le_of_ge' (a := i) (b := N) (by omega) (by omega) c_9) (by omega)
    · refine a_iconst (pc := 12) (v := 0) dX7_pairs_12 (by decide) ?_
      refine a_istore (pc := 13) (al' := [some (.ref _), some (.int _), some (.int _), some (.int _), some (.int _)]) dX7_pairs_13 (by decide) rfl rfl ?_
      refine l_X7_pairs2 (N := N) (by omega) ?_ i 0 (by omega)
      refine a_iincN (pc := 46) (m := 1) (al' := [some (.ref _), some (.int _), some (.int _), some (.int _), some (.int _)]) dX7_pairs_46 rfl (by decide) rfl rfl ?_
      refine a_goto (pc := 49) (tgt := 4) dX7_pairs_49 (by decide) ?_
      exact ih (i + 1) (by omega) _
set_option maxHeartbeats 4000000 in
set_option maxRecDepth 100000 in
theorem c_X7_pairs {ν : Mem} {N : Nat} {w : Int32} (h0 : ν 0 2 = nI N) (hN : N ≤ 6) : Con shM mX7_pairs [.ref 0, .int w] ν (fun q u => q = nI (ouR (ndR (ν 2) w) N) ∧ ν = u) := by
  have m0 : shM[0]? = some (7, 18, [none, some 1, none, none, none, none, none, some 2, some 3, none, none, some 4, none, none, some 5, some 6, some 7, some 8]) := rfl
  have m1 : shM[1]? = some (100, 200, []) := rfl
  have m2 : shM[2]? = some (100, 1320, []) := rfl
  have m3 : shM[3]? = some (100, 1760, []) := rfl
  have m4 : shM[4]? = some (100, 4, []) := rfl
  have m5 : shM[5]? = some (100, 6, []) := rfl
  have m6 : shM[6]? = some (100, 6, []) := rfl
  have m7 : shM[7]? = some (100, 6, []) := rfl
  have m8 : shM[8]? = some (100, 6, []) := rfl
  refine Con.ofAW (al0 := [some (.ref 0), some (.int w), none, none, none]) (by decide) rfl (Nat.le_of_ble_eq_true rfl) rfl ?_
  refine a_iconst (pc := 0) (v := 0) dX7_pairs_0 (by decide) ?_
  refine a_istore_n (pc := 1) (al' := [some (.ref _), some (.int _), some (.int _), none, none]) dX7_pairs_1 rfl (by decide) rfl rfl ?_
  refine a_iconst (pc := 2) (v := 0) dX7_pairs_2 (by decide) ?_
  refine a_istore_n (pc := 3) (al' := [some (.ref _), some (.int _), some (.int _), some (.int _), none]) dX7_pairs_3 rfl (by decide) rfl rfl ?_
  exact l_X7_pairs h0 hN ⟨rfl, rfl⟩ N 0 (by omega) _

def stnP (i : Int32) (N : Nat) : Prop := ∃ k, k < N ∧ i = nI k
theorem stn_iff {i : Int32} {N : Nat} (hN : N < 1000) : (¬ i < 0 ∧ ¬ nI N ≤ i) ↔ stnP i N := by
  constructor
  · rintro ⟨h1, h2⟩
    obtain ⟨k, k1, rfl⟩ := nI_of h1
    exact ⟨k, lt_of_not_ge' k1 (by omega) h2, rfl⟩
  · rintro ⟨k, k1, rfl⟩
    exact ⟨nI_pos (by omega), nI_ge k1 (by omega)⟩
theorem stn_iff2 {i : Int32} {N : Nat} (hN : N < 1000) (hN1 : 1 ≤ N) : (¬ i < 0 ∧ ¬ nI N - 1 < i) ↔ stnP i N := by
  have e : nI N - 1 = nI (N - 1) := by rw [show (1 : Int32) = nI 1 from rfl, pk_sub hN1]
  rw [e]
  constructor
  · rintro ⟨h1, h2⟩
    obtain ⟨k, k1, rfl⟩ := nI_of h1
    refine ⟨k, ?_, rfl⟩
    rcases Nat.lt_or_ge (N - 1) k with q | q
    · exact absurd (nI_lt q (by omega)) h2
    · omega
  · rintro ⟨k, k1, rfl⟩
    exact ⟨nI_pos (by omega), nI_nlt (by omega) (by omega)⟩
set_option maxHeartbeats 4000000 in
set_option maxRecDepth 100000 in
theorem c_X6_isStation {μ : Mem} {i : Int32} {N : Nat} (h0 : μ 2 0 = nI N) (hN : N < 1000) : Con shC mX6_isStation [.ref 0, .int i] μ (fun r u => (r = 1 ∧ stnP i N ∨ r = 0 ∧ ¬ stnP i N) ∧ μ = u) := by
  have z0 : shC[0]? = some (6, 8, [some 1, none, some 2, some 53, some 104, some 106, none, none]) := rfl
  have hn := net_2
  obtain ⟨hn0, hn1, hn2, hnS⟩ := id hn
  have hiff := stn_iff (i := i) hN
  refine Con.ofAW (al0 := [some (.ref 0), some (.int i)]) (by decide) rfl (Nat.le_of_ble_eq_true rfl) rfl ?_
  refine a_iload_n (pc := 0) dX6_isStation_0 rfl rfl ?_
  refine a_if_lt (pc := 1) (tgt := 19) dX6_isStation_1 (by decide) (fun c_1 => ?_) (fun c_1 => ?_)
  · refine a_iconst (pc := 19) (v := 0) dX6_isStation_19 (by decide) ?_
    refine a_zret (pc := 20) rfl (by rfl) dX6_isStation_20 ?_
    simp_all [← hiff, -Int32.not_lt, -Int32.not_le]
  · refine a_iload_n (pc := 4) dX6_isStation_4 rfl rfl ?_
    refine a_aload_n (pc := 5) dX6_isStation_5 rfl rfl ?_
    refine a_getr (pc := 6) fl_X6_16 (by assumption) (by decide) (by rfl) dX6_isStation_6 ?_
    refine a_geti (pc := 9) fl_X6_60 (by assumption) (by decide) (by rfl) dX6_isStation_9 ?_
    refine a_top (y := nI N) h0 ?_
    refine a_icmp_ge (pc := 12) (tgt := 19) dX6_isStation_12 (by decide) (fun c_12 => ?_) (fun c_12 => ?_)
    · refine a_iconst (pc := 19) (v := 0) dX6_isStation_19 (by decide) ?_
      refine a_zret (pc := 20) rfl (by rfl) dX6_isStation_20 ?_
      simp_all [← hiff, -Int32.not_lt, -Int32.not_le]
    · refine a_iconst (pc := 15) (v := 1) dX6_isStation_15 (by decide) ?_
      refine a_goto (pc := 16) (tgt := 20) dX6_isStation_16 (by decide) ?_
      refine a_zret (pc := 20) rfl (by rfl) dX6_isStation_20 ?_
      simp_all [← hiff, -Int32.not_lt, -Int32.not_le]

set_option maxHeartbeats 4000000 in
set_option maxRecDepth 100000 in
theorem c_X6_isPair {μ : Mem} {i j : Int32} {N : Nat} (h0 : μ 2 0 = nI N) (hN : N < 1000) : Con shC mX6_isPair [.ref 0, .int i, .int j] μ (fun r u => (r = 1 ∧ (stnP i N ∧ stnP j N ∧ ¬ i = j) ∨ r = 0 ∧ ¬ (stnP i N ∧ stnP j N ∧ ¬ i = j)) ∧ μ = u) := by
  have z0 : shC[0]? = some (6, 8, [some 1, none, some 2, some 53, some 104, some 106, none, none]) := rfl
  have hn := net_2
  obtain ⟨hn0, hn1, hn2, hnS⟩ := id hn
  refine Con.ofAW (al0 := [some (.ref 0), some (.int i), some (.int j)]) (by decide) rfl (Nat.le_of_ble_eq_true rfl) rfl ?_
  refine a_aload_n (pc := 0) dX6_isPair_0 rfl rfl ?_
  refine a_iload_n (pc := 1) dX6_isPair_1 rfl rfl ?_
  refine a_callI1 (pc := 2) ck_X6_129 ⟨(Nat.le_of_ble_eq_true rfl), (Nat.le_of_ble_eq_true rfl)⟩ (by assumption) (by decide) (Nat.le_of_ble_eq_true rfl) dX6_isPair_2 rfl (c_X6_isStation h0 hN) ?_
  rintro r u ⟨hr2, rfl⟩
  refine a_if_eq (pc := 5) (tgt := 25) dX6_isPair_5 (by decide) (fun c_5 => ?_) (fun c_5 => ?_)
  · refine a_iconst (pc := 25) (v := 0) dX6_isPair_25 (by decide) ?_
    refine a_zret (pc := 26) rfl (by rfl) dX6_isPair_26 ?_
    simp_all
  · refine a_aload_n (pc := 8) dX6_isPair_8 rfl rfl ?_
    refine a_iload_n (pc := 9) dX6_isPair_9 rfl rfl ?_
    refine a_callI1 (pc := 10) ck_X6_129 ⟨(Nat.le_of_ble_eq_true rfl), (Nat.le_of_ble_eq_true rfl)⟩ (by assumption) (by decide) (Nat.le_of_ble_eq_true rfl) dX6_isPair_10 rfl (c_X6_isStation h0 hN) ?_
    rintro r u ⟨hr10, rfl⟩
    refine a_if_eq (pc := 13) (tgt := 25) dX6_isPair_13 (by decide) (fun c_13 => ?_) (fun c_13 => ?_)
    · refine a_iconst (pc := 25) (v := 0) dX6_isPair_25 (by decide) ?_
      refine a_zret (pc := 26) rfl (by rfl) dX6_isPair_26 ?_
      simp_all
    · refine a_iload_n (pc := 16) dX6_isPair_16 rfl rfl ?_
      refine a_iload_n (pc := 17) dX6_isPair_17 rfl rfl ?_
      refine a_icmp_eq (pc := 18) (tgt := 25) dX6_isPair_18 (by decide) (fun c_18 => ?_) (fun c_18 => ?_)
      · refine a_iconst (pc := 25) (v := 0) dX6_isPair_25 (by decide) ?_
        refine a_zret (pc := 26) rfl (by rfl) dX6_isPair_26 ?_
        simp_all
      · refine a_iconst (pc := 21) (v := 1) dX6_isPair_21 (by decide) ?_
        refine a_goto (pc := 22) (tgt := 26) dX6_isPair_22 (by decide) ?_
        refine a_zret (pc := 26) rfl (by rfl) dX6_isPair_26 ?_
        simp_all

set_option maxHeartbeats 4000000 in
set_option maxRecDepth 100000 in
theorem c_X7_isStation {ν : Mem} {i : Int32} {N : Nat} (h0 : ν 0 2 = nI N) (hN : N < 1000) (hN1 : 1 ≤ N) : Con shM mX7_isStation [.ref 0, .int i] ν (fun r u => (r = 1 ∧ stnP i N ∨ r = 0 ∧ ¬ stnP i N) ∧ ν = u) := by
  have m0 : shM[0]? = some (7, 18, [none, some 1, none, none, none, none, none, some 2, some 3, none, none, some 4, none, none, some 5, some 6, some 7, some 8]) := rfl
  have m1 : shM[1]? = some (100, 200, []) := rfl
  have m2 : shM[2]? = some (100, 1320, []) := rfl
  have m3 : shM[3]? = some (100, 1760, []) := rfl
  have m4 : shM[4]? = some (100, 4, []) := rfl
  have m5 : shM[5]? = some (100, 6, []) := rfl
  have m6 : shM[6]? = some (100, 6, []) := rfl
  have m7 : shM[7]? = some (100, 6, []) := rfl
  have m8 : shM[8]? = some (100, 6, []) := rfl
  have hiff := stn_iff2 (i := i) hN hN1
  refine Con.ofAW (al0 := [some (.ref 0), some (.int i)]) (by decide) rfl (Nat.le_of_ble_eq_true rfl) rfl ?_
  refine a_iload_n (pc := 0) dX7_isStation_0 rfl rfl ?_
  refine a_iconst (pc := 1) (v := 0) dX7_isStation_1 (by decide) ?_
  refine a_aload_n (pc := 2) dX7_isStation_2 rfl rfl ?_
  refine a_geti (pc := 3) fl_X7_56 (by assumption) (by decide) (by rfl) dX7_isStation_3 ?_
  refine a_top (y := nI N) h0 ?_
  refine a_iconst (pc := 6) (v := 1) dX7_isStation_6 (by decide) ?_
  refine a_isub (pc := 7) dX7_isStation_7 ?_
  refine a_callS3 (pc := 8) cs_X7_94 ⟨(Nat.le_of_ble_eq_true rfl), (Nat.le_of_ble_eq_true rfl)⟩ (Nat.le_of_ble_eq_true rfl) dX7_isStation_8 rfl c_X7_isIn ?_
  rintro q u ⟨hq, rfl⟩
  refine a_zret (pc := 11) rfl (by rcases hq with hq | hq <;> rw [hq.1] <;> rfl) dX7_isStation_11 ?_
  rw [← hiff]
  refine ⟨?_, rfl⟩
  rcases hq with ⟨h1, h2, h3⟩ | ⟨h1, h2⟩
  · exact Or.inl ⟨h1, h2, h3⟩
  · exact Or.inr ⟨h1, fun q => h2.elim q.1 q.2⟩

set_option maxHeartbeats 4000000 in
set_option maxRecDepth 100000 in
theorem c_X7_areTwo {ν : Mem} {i j : Int32} {N : Nat} (h0 : ν 0 2 = nI N) (hN : N < 1000) (hN1 : 1 ≤ N) : Con shM mX7_areTwo [.ref 0, .int i, .int j] ν (fun r u => (r = 1 ∧ (stnP i N ∧ stnP j N ∧ ¬ i = j) ∨ r = 0 ∧ ¬ (stnP i N ∧ stnP j N ∧ ¬ i = j)) ∧ ν = u) := by
  have m0 : shM[0]? = some (7, 18, [none, some 1, none, none, none, none, none, some 2, some 3, none, none, some 4, none, none, some 5, some 6, some 7, some 8]) := rfl
  have m1 : shM[1]? = some (100, 200, []) := rfl
  have m2 : shM[2]? = some (100, 1320, []) := rfl
  have m3 : shM[3]? = some (100, 1760, []) := rfl
  have m4 : shM[4]? = some (100, 4, []) := rfl
  have m5 : shM[5]? = some (100, 6, []) := rfl
  have m6 : shM[6]? = some (100, 6, []) := rfl
  have m7 : shM[7]? = some (100, 6, []) := rfl
  have m8 : shM[8]? = some (100, 6, []) := rfl
  refine Con.ofAW (al0 := [some (.ref 0), some (.int i), some (.int j)]) (by decide) rfl (Nat.le_of_ble_eq_true rfl) rfl ?_
  refine a_aload_n (pc := 0) dX7_areTwo_0 rfl rfl ?_
  refine a_iload_n (pc := 1) dX7_areTwo_1 rfl rfl ?_
  refine a_callI1 (pc := 2) ck_X7_175 ⟨(Nat.le_of_ble_eq_true rfl), (Nat.le_of_ble_eq_true rfl)⟩ (by assumption) (by decide) (Nat.le_of_ble_eq_true rfl) dX7_areTwo_2 rfl (c_X7_isStation h0 hN hN1) ?_
  rintro r u ⟨hr2, rfl⟩
  refine a_if_eq (pc := 5) (tgt := 25) dX7_areTwo_5 (by decide) (fun c_5 => ?_) (fun c_5 => ?_)
  · refine a_iconst (pc := 25) (v := 0) dX7_areTwo_25 (by decide) ?_
    refine a_zret (pc := 26) rfl (by rfl) dX7_areTwo_26 ?_
    simp_all
  · refine a_aload_n (pc := 8) dX7_areTwo_8 rfl rfl ?_
    refine a_iload_n (pc := 9) dX7_areTwo_9 rfl rfl ?_
    refine a_callI1 (pc := 10) ck_X7_175 ⟨(Nat.le_of_ble_eq_true rfl), (Nat.le_of_ble_eq_true rfl)⟩ (by assumption) (by decide) (Nat.le_of_ble_eq_true rfl) dX7_areTwo_10 rfl (c_X7_isStation h0 hN hN1) ?_
    rintro r u ⟨hr10, rfl⟩
    refine a_if_eq (pc := 13) (tgt := 25) dX7_areTwo_13 (by decide) (fun c_13 => ?_) (fun c_13 => ?_)
    · refine a_iconst (pc := 25) (v := 0) dX7_areTwo_25 (by decide) ?_
      refine a_zret (pc := 26) rfl (by rfl) dX7_areTwo_26 ?_
      simp_all
    · refine a_iload_n (pc := 16) dX7_areTwo_16 rfl rfl ?_
      refine a_iload_n (pc := 17) dX7_areTwo_17 rfl rfl ?_
      refine a_icmp_eq (pc := 18) (tgt := 25) dX7_areTwo_18 (by decide) (fun c_18 => ?_) (fun c_18 => ?_)
      · refine a_iconst (pc := 25) (v := 0) dX7_areTwo_25 (by decide) ?_
        refine a_zret (pc := 26) rfl (by rfl) dX7_areTwo_26 ?_
        simp_all
      · refine a_iconst (pc := 21) (v := 1) dX7_areTwo_21 (by decide) ?_
        refine a_goto (pc := 22) (tgt := 26) dX7_areTwo_22 (by decide) ?_
        refine a_zret (pc := 26) rfl (by rfl) dX7_areTwo_26 ?_
        simp_all

