/-! draws, slot -/
theorem pas_x {μ : Mem} {n N x : Nat} (hx : x < n ∨ stA n N ≤ x) : ∀ q, pasF μ n N q x = μ x
  | 0 => rfl
  | q + 1 => by
    have hs : n + 1 < stA n N := by unfold stA; omega
    show lsM (sltM (pasF μ n N q) n N) n N x = μ x
    rw [lsM_x N (by omega)]
    unfold sltM
    rw [up2_ne (by omega), up2_ne (by omega), saM_x N (by omega), pas_x hx q]
theorem BLn.pas {μ ν : Mem} {n b N t D q : Nat} (hN : N ≤ 6) (hb : BLn μ n) (h : NR (pasF μ n N q) n ν b N t D) : BLn (pasF μ n N q) n := by
  intro i hi
  rcases Nat.lt_or_ge i N with hl | hl
  · exact (h.2.2.2.2.2.2.2 i hl).1.2.2.2.2.2.2
  · rw [pas_x (Or.inr (by unfold stA; omega))]; exact hb i hi
theorem gos_x {ν : Mem} {b N x : Nat} (hx : x < 5) (h2 : x ≠ 2) : gosF ν b N x = ν x := by
  unfold gosF; rw [upA_ne h2, syA_ne hx]
theorem gos_j {ν : Mem} {b N j : Nat} (hN : N ≤ 6) (hp : PreGo ν b N) (hj : j < b ∨ b + 440 ≤ j) : gosF ν b N 2 j = ν 2 j := by
  unfold gosF; rw [upA_at]; unfold gosR
  rw [upd_ne (by omega), upd_ne (by omega), gtM_j hN hp N (Nat.le_refl _) j hj, sdM_j N (by omega)]
theorem gosN_x {ν : Mem} {b N x : Nat} (hx : x < 5) (h2 : x ≠ 2) : ∀ q, gosN ν b N q x = ν x
  | 0 => rfl
  | q + 1 => (gos_x hx h2).trans (gosN_x hx h2 q)
theorem gosN_j {ν : Mem} {b N j : Nat} (hN : N ≤ 6) (hj : j < b ∨ b + 440 ≤ j) : ∀ q, (∀ i, i < q → PreGo (gosN ν b N i) b N) → gosN ν b N q 2 j = ν 2 j
  | 0, _ => rfl
  | q + 1, hp => (gos_j hN (hp q (by omega)) hj).trans (gosN_j hN hj q (fun i hi => hp i (by omega)))
theorem GR.net {μ u ν v : Mem} {D D' : Nat} (hG : GR μ ν D) (hD : D ≤ D') (hu : ∀ x, (x < 2 ∨ 52 < x) → u x = μ x) (hv : ∀ x, x < 4 → x ≠ 2 → v x = ν x) (h : ∀ N t, NB μ 2 ν 0 N t D → t ≤ 9999 → BLn μ 2 → ∃ t', NB u 2 v 0 N t' D' ∧ t' ≤ 9999 ∧ BLn u 2) : GR u v D' := by
  obtain ⟨N, t, hNR, ht, hP, ⟨l, l1, l2, l3, l4⟩, hB⟩ := hG
  obtain ⟨t', hN', ht', hB'⟩ := h N t hNR ht hB.1
  have e0 := hu 0 (by omega)
  have v0 := hv 0 (by omega) (by omega)
  exact ⟨N, t', hN', ht', hP.eq (fun x hx => hu x (by omega)) (by rw [e0]) (by rw [e0]) (fun k _ _ => by rw [v0]) (by rw [v0]) (hv 3 (by omega) (by omega)) hD, ⟨l, l1, by rw [e0]; exact l2, by rw [v0]; exact l3, by rw [hu 1 (by omega), hv 1 (by omega) (by omega)]; exact l4⟩, hB', hB.2.1.eq (fun x h1 h2 => hu x (by omega)), fun j hj => (hB.2.2 j hj).eq (fun x h1 h2 => hu x (by unfold pst at h1; omega))⟩
theorem GR.tri {μ u ν v : Mem} {D : Nat} (hG : GR μ ν D) (hu : ∀ x, (x < 53 ∨ 103 < x) → u x = μ x) (hv : ∀ x, x < 4 → x ≠ 2 → v x = ν x) (hv2 : ∀ j, j < 440 → v 2 j = ν 2 j) (hb : BLn u 53) : GR u v D := by
  obtain ⟨N, t, hNR, ht, hP, ⟨l, l1, l2, l3, l4⟩, hB⟩ := hG
  have e0 := hu 0 (by omega)
  have v0 := hv 0 (by omega) (by omega)
  exact ⟨N, t, hNR.eq (fun x h1 h2 => hu x (by omega)) (fun k _ _ => by rw [v0]) (fun j hj => by rw [Nat.zero_add]; exact hv2 j hj) (Nat.le_refl _), ht, hP.eq (fun x hx => hu x (by omega)) (by rw [e0]) (by rw [e0]) (fun k _ _ => by rw [v0]) (by rw [v0]) (hv 3 (by omega) (by omega)) (Nat.le_refl _), ⟨l, l1, by rw [e0]; exact l2, by rw [v0]; exact l3, by rw [hu 1 (by omega), hv 1 (by omega) (by omega)]; exact l4⟩, hB.1.eq (fun x h1 h2 => hu x (by omega)), hb, fun j hj => (hB.2.2 j hj).eq (fun x h1 h2 => hu x (by unfold pst at h1; omega))⟩
set_option maxHeartbeats 4000000 in
set_option maxRecDepth 100000 in
theorem c_X6_drawsX {μ : Mem} {k : Int32} (h : ¬ (¬ k < 0 ∧ ¬ 9999 < k)) : Con shC mX6_draws [.ref 0, .int k] μ (fun r u => r = -1 ∧ μ = u) := by
  have z0 : shC[0]? = some (6, 8, [some 1, none, some 2, some 53, some 104, some 106, none, none]) := rfl
  have hn := net_2
  obtain ⟨hn0, hn1, hn2, hnS⟩ := id hn
  refine Con.ofAW (al0 := [some (.ref 0), some (.int k), none]) (by decide) rfl (Nat.le_of_ble_eq_true rfl) rfl ?_
  refine a_iload_n (pc := 0) dX6_draws_0 rfl rfl ?_
  refine a_if_lt (pc := 1) (tgt := 11) dX6_draws_1 (by decide) (fun c_1 => ?_) (fun c_1 => ?_)
  · refine a_iconst (pc := 11) (v := -1) dX6_draws_11 (by decide) ?_
    refine a_iret (pc := 12) rfl dX6_draws_12 ?_
    exact ⟨rfl, rfl⟩
  · refine a_iload_n (pc := 4) dX6_draws_4 rfl rfl ?_
    refine a_sipush (pc := 5) (v := 9999) dX6_draws_5 (by decide) ?_
    refine a_icmp_le (pc := 8) (tgt := 13) dX6_draws_8 (by decide) (fun c_8 => ?_) (fun c_8 => ?_)
    · exfalso
      rw [← Int32.not_lt] at c_8
      exact h ⟨c_1, c_8⟩
    · refine a_iconst (pc := 11) (v := -1) dX6_draws_11 (by decide) ?_
      refine a_iret (pc := 12) rfl dX6_draws_12 ?_
      exact ⟨rfl, rfl⟩

set_option maxHeartbeats 4000000 in
set_option maxRecDepth 100000 in
theorem c_X7_drawsX {ν : Mem} {k : Int32} (h : ¬ (¬ k < 0 ∧ ¬ 9999 < k)) : Con shM mX7_draws [.ref 0, .int k] ν (fun r u => r = -1 ∧ ν = u) := by
  have m0 : shM[0]? = some (7, 18, [none, some 1, none, none, none, none, none, some 2, some 3, none, none, some 4, none, none, some 5, some 6, some 7, some 8]) := rfl
  have m1 : shM[1]? = some (100, 200, []) := rfl
  have m2 : shM[2]? = some (100, 1320, []) := rfl
  have m3 : shM[3]? = some (100, 1760, []) := rfl
  have m4 : shM[4]? = some (100, 4, []) := rfl
  have m5 : shM[5]? = some (100, 6, []) := rfl
  have m6 : shM[6]? = some (100, 6, []) := rfl
  have m7 : shM[7]? = some (100, 6, []) := rfl
  have m8 : shM[8]? = some (100, 6, []) := rfl
  refine Con.ofAW (al0 := [some (.ref 0), some (.int k), none]) (by decide) rfl (Nat.le_of_ble_eq_true rfl) rfl ?_
  refine a_iload_n (pc := 0) dX7_draws_0 rfl rfl ?_
  refine a_iconst (pc := 1) (v := 0) dX7_draws_1 (by decide) ?_
  refine a_sipush (pc := 2) (v := 9999) dX7_draws_2 (by decide) ?_
  refine a_callS3 (pc := 5) cs_X7_94 ⟨(Nat.le_of_ble_eq_true rfl), (Nat.le_of_ble_eq_true rfl)⟩ (Nat.le_of_ble_eq_true rfl) dX7_draws_5 rfl c_X7_isIn ?_
  rintro r2 u ⟨hr2, rfl⟩
  have hr3 := isin_n hr2 h
  subst hr3
  refine a_if_ne (pc := 8) (tgt := 13) dX7_draws_8 (by decide) (fun c_8 => ?_) (fun c_8 => ?_)
  · exact absurd c_8 (by decide)
  · refine a_iconst (pc := 11) (v := -1) dX7_draws_11 (by decide) ?_
    refine a_iret (pc := 12) rfl dX7_draws_12 ?_
    exact ⟨rfl, rfl⟩

set_option maxHeartbeats 4000000 in
set_option maxRecDepth 100000 in
theorem c_X6_drawsE {μ : Mem} {k : Int32} (h : ¬ k < 0 ∧ ¬ 9999 < k) (hk : k = μ 2 5) : Con shC mX6_draws [.ref 0, .int k] μ (fun r u => r = -2 ∧ μ = u) := by
  have z0 : shC[0]? = some (6, 8, [some 1, none, some 2, some 53, some 104, some 106, none, none]) := rfl
  have hn := net_2
  obtain ⟨hn0, hn1, hn2, hnS⟩ := id hn
  refine Con.ofAW (al0 := [some (.ref 0), some (.int k), none]) (by decide) rfl (Nat.le_of_ble_eq_true rfl) rfl ?_
  refine a_iload_n (pc := 0) dX6_draws_0 rfl rfl ?_
  refine a_if_lt (pc := 1) (tgt := 11) dX6_draws_1 (by decide) (fun c_1 => ?_) (fun c_1 => ?_)
  · exact absurd c_1 h.1
  · refine a_iload_n (pc := 4) dX6_draws_4 rfl rfl ?_
    refine a_sipush (pc := 5) (v := 9999) dX6_draws_5 (by decide) ?_
    refine a_icmp_le (pc := 8) (tgt := 13) dX6_draws_8 (by decide) (fun c_8 => ?_) (fun c_8 => ?_)
    · refine a_iload_n (pc := 13) dX6_draws_13 rfl rfl ?_
      refine a_aload_n (pc := 14) dX6_draws_14 rfl rfl ?_
      refine a_getr (pc := 15) fl_X6_16 (by assumption) (by decide) (by rfl) dX6_draws_15 ?_
      refine a_geti (pc := 18) fl_X6_107 (by assumption) (by decide) (by rfl) dX6_draws_18 ?_
      refine a_icmp_ne (pc := 21) (tgt := 27) dX6_draws_21 (by decide) (fun c_21 => ?_) (fun c_21 => ?_)
      · exact absurd hk c_21
      · refine a_bipush (pc := 24) (v := -2) dX6_draws_24 (by decide) ?_
        refine a_iret (pc := 26) rfl dX6_draws_26 ?_
        exact ⟨rfl, rfl⟩
    · exact absurd (Int32.not_lt.mp h.2) c_8

set_option maxHeartbeats 4000000 in
set_option maxRecDepth 100000 in
theorem c_X7_drawsE {ν : Mem} {k : Int32} (h : ¬ k < 0 ∧ ¬ 9999 < k) (hk : ν 2 428 = k) : Con shM mX7_draws [.ref 0, .int k] ν (fun r u => r = -2 ∧ ν = u) := by
  have m0 : shM[0]? = some (7, 18, [none, some 1, none, none, none, none, none, some 2, some 3, none, none, some 4, none, none, some 5, some 6, some 7, some 8]) := rfl
  have m1 : shM[1]? = some (100, 200, []) := rfl
  have m2 : shM[2]? = some (100, 1320, []) := rfl
  have m3 : shM[3]? = some (100, 1760, []) := rfl
  have m4 : shM[4]? = some (100, 4, []) := rfl
  have m5 : shM[5]? = some (100, 6, []) := rfl
  have m6 : shM[6]? = some (100, 6, []) := rfl
  have m7 : shM[7]? = some (100, 6, []) := rfl
  have m8 : shM[8]? = some (100, 6, []) := rfl
  refine Con.ofAW (al0 := [some (.ref 0), some (.int k), none]) (by decide) rfl (Nat.le_of_ble_eq_true rfl) rfl ?_
  refine a_iload_n (pc := 0) dX7_draws_0 rfl rfl ?_
  refine a_iconst (pc := 1) (v := 0) dX7_draws_1 (by decide) ?_
  refine a_sipush (pc := 2) (v := 9999) dX7_draws_2 (by decide) ?_
  refine a_callS3 (pc := 5) cs_X7_94 ⟨(Nat.le_of_ble_eq_true rfl), (Nat.le_of_ble_eq_true rfl)⟩ (Nat.le_of_ble_eq_true rfl) dX7_draws_5 rfl c_X7_isIn ?_
  rintro r2 u ⟨hr2, rfl⟩
  have hr3 := isin_y hr2 h
  subst hr3
  refine a_if_ne (pc := 8) (tgt := 13) dX7_draws_8 (by decide) (fun c_8 => ?_) (fun c_8 => ?_)
  · refine a_aload_n (pc := 13) dX7_draws_13 rfl rfl ?_
    refine a_getr (pc := 14) fl_X7_13 (by assumption) (by decide) (by rfl) dX7_draws_14 ?_
    refine a_sipush (pc := 17) (v := 428) dX7_draws_17 (by decide) ?_
    refine a_iald (pc := 20) (j := 428) (by assumption) rfl (by omega) (by decide) dX7_draws_20 ?_
    refine a_istore_n (pc := 21) (al' := [some (.ref _), some (.int _), some (.int _)]) dX7_draws_21 rfl (by decide) rfl rfl ?_
    refine a_iload_n (pc := 22) dX7_draws_22 rfl rfl ?_
    refine a_iload_n (pc := 23) dX7_draws_23 rfl rfl ?_
    refine a_icmp_ne (pc := 24) (tgt := 30) dX7_draws_24 (by decide) (fun c_24 => ?_) (fun c_24 => ?_)
    · exact absurd hk c_24
    · refine a_bipush (pc := 27) (v := -2) dX7_draws_27 (by decide) ?_
      refine a_iret (pc := 29) rfl dX7_draws_29 ?_
      exact ⟨rfl, rfl⟩
  · exact absurd c_8 (by decide)

set_option maxHeartbeats 4000000 in
set_option maxRecDepth 100000 in
theorem c_X6_draws {μ : Mem} {k : Int32} {U : Mem → Prop} (hU : Con shC mX6_remember [.ref 0] μ (fun _ u => U u)) (hf : ∀ u, U u → ∀ x, 1 ≤ x → x ≤ 106 → u x = μ x) (h : ¬ k < 0 ∧ ¬ 9999 < k) (hk : ¬ k = μ 2 5) : Con shC mX6_draws [.ref 0, .int k] μ (fun r u => r = μ 2 5 ∧ ∃ v, U v ∧ u = up2 v 2 5 k) := by
  have z0 : shC[0]? = some (6, 8, [some 1, none, some 2, some 53, some 104, some 106, none, none]) := rfl
  have hn := net_2
  obtain ⟨hn0, hn1, hn2, hnS⟩ := id hn
  refine Con.ofAW (al0 := [some (.ref 0), some (.int k), none]) (by decide) rfl (Nat.le_of_ble_eq_true rfl) rfl ?_
  refine a_iload_n (pc := 0) dX6_draws_0 rfl rfl ?_
  refine a_if_lt (pc := 1) (tgt := 11) dX6_draws_1 (by decide) (fun c_1 => ?_) (fun c_1 => ?_)
  · exact absurd c_1 h.1
  · refine a_iload_n (pc := 4) dX6_draws_4 rfl rfl ?_
    refine a_sipush (pc := 5) (v := 9999) dX6_draws_5 (by decide) ?_
    refine a_icmp_le (pc := 8) (tgt := 13) dX6_draws_8 (by decide) (fun c_8 => ?_) (fun c_8 => ?_)
    · refine a_iload_n (pc := 13) dX6_draws_13 rfl rfl ?_
      refine a_aload_n (pc := 14) dX6_draws_14 rfl rfl ?_
      refine a_getr (pc := 15) fl_X6_16 (by assumption) (by decide) (by rfl) dX6_draws_15 ?_
      refine a_geti (pc := 18) fl_X6_107 (by assumption) (by decide) (by rfl) dX6_draws_18 ?_
      refine a_icmp_ne (pc := 21) (tgt := 27) dX6_draws_21 (by decide) (fun c_21 => ?_) (fun c_21 => ?_)
      · refine a_aload_n (pc := 27) dX6_draws_27 rfl rfl ?_
        refine a_callV0 (pc := 28) ck_X6_85 ⟨(Nat.le_of_ble_eq_true rfl), (Nat.le_of_ble_eq_true rfl)⟩ (by assumption) (by decide) (Nat.le_of_ble_eq_true rfl) dX6_draws_28 rfl hU ?_
        rintro v hv
        refine a_aload_n (pc := 31) dX6_draws_31 rfl rfl ?_
        refine a_getr (pc := 32) fl_X6_16 (by assumption) (by decide) (by rfl) dX6_draws_32 ?_
        refine a_geti (pc := 35) fl_X6_107 (by assumption) (by decide) (by rfl) dX6_draws_35 ?_
        refine a_istore_n (pc := 38) (al' := [some (.ref _), some (.int _), some (.int _)]) dX6_draws_38 rfl (by decide) rfl rfl ?_
        refine a_aload_n (pc := 39) dX6_draws_39 rfl rfl ?_
        refine a_getr (pc := 40) fl_X6_16 (by assumption) (by decide) (by rfl) dX6_draws_40 ?_
        refine a_iload_n (pc := 43) dX6_draws_43 rfl rfl ?_
        refine a_puti (pc := 44) fp_X6_107 (by assumption) (by decide) (by rfl) dX6_draws_44 ?_
        refine a_iload_n (pc := 47) dX6_draws_47 rfl rfl ?_
        refine a_iret (pc := 48) rfl dX6_draws_48 ?_
        exact ⟨by rw [hf v hv 2 (by omega) (by omega)], v, hv, rfl⟩
      · exact absurd c_21 hk
    · exact absurd (Int32.not_lt.mp h.2) c_8

set_option maxHeartbeats 4000000 in
set_option maxRecDepth 100000 in
theorem c_X7_draws {ν : Mem} {k : Int32} {V : Mem → Prop} (hV : Con shM mX7_keeps [.ref 0] ν (fun _ u => V u)) (hg : ∀ v, V v → (∀ x, 1 ≤ x → x ≠ 3 → v x = ν x) ∧ ∀ k, k ≠ 9 → v 0 k = ν 0 k) (h : ¬ k < 0 ∧ ¬ 9999 < k) (hk : ¬ ν 2 428 = k) : Con shM mX7_draws [.ref 0, .int k] ν (fun r u => r = ν 2 428 ∧ ∃ v, V v ∧ u = up2 v 2 428 k) := by
  have m0 : shM[0]? = some (7, 18, [none, some 1, none, none, none, none, none, some 2, some 3, none, none, some 4, none, none, some 5, some 6, some 7, some 8]) := rfl
  have m1 : shM[1]? = some (100, 200, []) := rfl
  have m2 : shM[2]? = some (100, 1320, []) := rfl
  have m3 : shM[3]? = some (100, 1760, []) := rfl
  have m4 : shM[4]? = some (100, 4, []) := rfl
  have m5 : shM[5]? = some (100, 6, []) := rfl
  have m6 : shM[6]? = some (100, 6, []) := rfl
  have m7 : shM[7]? = some (100, 6, []) := rfl
  have m8 : shM[8]? = some (100, 6, []) := rfl
  refine Con.ofAW (al0 := [some (.ref 0), some (.int k), none]) (by decide) rfl (Nat.le_of_ble_eq_true rfl) rfl ?_
  refine a_iload_n (pc := 0) dX7_draws_0 rfl rfl ?_
  refine a_iconst (pc := 1) (v := 0) dX7_draws_1 (by decide) ?_
  refine a_sipush (pc := 2) (v := 9999) dX7_draws_2 (by decide) ?_
  refine a_callS3 (pc := 5) cs_X7_94 ⟨(Nat.le_of_ble_eq_true rfl), (Nat.le_of_ble_eq_true rfl)⟩ (Nat.le_of_ble_eq_true rfl) dX7_draws_5 rfl c_X7_isIn ?_
  rintro r2 u ⟨hr2, rfl⟩
  have hr3 := isin_y hr2 h
  subst hr3
  refine a_if_ne (pc := 8) (tgt := 13) dX7_draws_8 (by decide) (fun c_8 => ?_) (fun c_8 => ?_)
  · refine a_aload_n (pc := 13) dX7_draws_13 rfl rfl ?_
    refine a_getr (pc := 14) fl_X7_13 (by assumption) (by decide) (by rfl) dX7_draws_14 ?_
    refine a_sipush (pc := 17) (v := 428) dX7_draws_17 (by decide) ?_
    refine a_iald (pc := 20) (j := 428) (by assumption) rfl (by omega) (by decide) dX7_draws_20 ?_
    refine a_istore_n (pc := 21) (al' := [some (.ref _), some (.int _), some (.int _)]) dX7_draws_21 rfl (by decide) rfl rfl ?_
    refine a_iload_n (pc := 22) dX7_draws_22 rfl rfl ?_
    refine a_iload_n (pc := 23) dX7_draws_23 rfl rfl ?_
    refine a_icmp_ne (pc := 24) (tgt := 30) dX7_draws_24 (by decide) (fun c_24 => ?_) (fun c_24 => ?_)
    · refine a_aload_n (pc := 30) dX7_draws_30 rfl rfl ?_
      refine a_callV0 (pc := 31) ck_X7_181 ⟨(Nat.le_of_ble_eq_true rfl), (Nat.le_of_ble_eq_true rfl)⟩ (by assumption) (by decide) (Nat.le_of_ble_eq_true rfl) dX7_draws_31 rfl hV ?_
      rintro v hv
      refine a_aload_n (pc := 34) dX7_draws_34 rfl rfl ?_
      refine a_getr (pc := 35) fl_X7_13 (by assumption) (by decide) (by rfl) dX7_draws_35 ?_
      refine a_sipush (pc := 38) (v := 428) dX7_draws_38 (by decide) ?_
      refine a_iload_n (pc := 41) dX7_draws_41 rfl rfl ?_
      refine a_iast (pc := 42) (j := 428) (by assumption) rfl (by omega) (by decide) dX7_draws_42 ?_
      refine a_iload_n (pc := 43) dX7_draws_43 rfl rfl ?_
      refine a_iret (pc := 44) rfl dX7_draws_44 ?_
      exact ⟨rfl, v, hv, rfl⟩
    · exact absurd c_24 hk
  · exact absurd c_8 (by decide)

theorem api_draws {μ ν : Mem} {D : Nat} (k : Int32) (hG : GR μ ν D) : API mX6_draws mX7_draws [.int k] μ ν D := by
  obtain ⟨N, t, hNR, ht, hP, hT, hB⟩ := id hG
  obtain ⟨⟨c0, c0', hN2, hN6, ⟨cl, cl1, cl2, cl3⟩, ⟨cm, cm1, cm2, cm3⟩, c3, ⟨cr, cr1, cr2, cr3⟩⟩, ⟨z, z1, z2, z3⟩, h6, h6', h7, hTK, ⟨hm, hH, hsym⟩, hR⟩ := id hNR.1
  simp only [Nat.zero_add] at z2 h6' h7 hH hR
  by_cases h : ¬ k < 0 ∧ ¬ 9999 < k
  · by_cases hk : k = μ 2 5
    · exact API.same hG (c_X6_drawsE h hk) (c_X7_drawsE h (by rw [z2, ← z1]; exact hk.symm))
    · obtain ⟨U, V, hU, hV, hf, hg, hGR⟩ := rem_keep hG
      refine API.of ⟨nI z, _, _, Con.mono (c_X6_draws hU hf h hk) (fun r u q => ⟨q.1.trans z1, q.2⟩), Con.mono (c_X7_draws hV hg h (fun q => hk (by rw [z1, ← z2]; exact q.symm))) (fun r u q => ⟨q.1.trans z2, q.2⟩), ?_⟩
      rintro u v ⟨u0, hu0, rfl⟩ ⟨v0, hv0, rfl⟩
      obtain ⟨k, hk', rfl⟩ := in_of (K := 9999) (n := 9999) rfl h
      refine (hGR u0 v0 hu0 hv0).net (Nat.le_refl _) (fun x hx => up2_ne (by omega)) (fun x hx h2 => up2_ne h2) (fun N t hN ht hB => ⟨t, ⟨?_, hN.2.row (up2_ne (by omega))⟩, ht, fun i hi => by rw [up2_ne (by unfold stA; omega)]; exact hB i hi⟩)
      obtain ⟨⟨c0, c0', hN2, hN6, hl, hmm, c3, hr⟩, -, h6, h6', h7, hT, ⟨hm, hH, hsym⟩, hR⟩ := hN.1
      have eu : ∀ x, x ≠ 2 → up2 u0 2 5 (nI k) x = u0 x := fun x hx => up2_ne hx
      have eu2 : ∀ j, j ≠ 5 → up2 u0 2 5 (nI k) 2 j = u0 2 j := fun j hj => up2_k hj
      have ev : ∀ x, x ≠ 2 → up2 v0 2 428 (nI k) x = v0 x := fun x hx => up2_ne hx
      have ev2 : ∀ j, j ≠ 428 → up2 v0 2 428 (nI k) 2 j = v0 2 j := fun j hj => up2_k hj
      have a1 : up2 u0 2 5 (nI k) 2 5 = nI k := up2_at
      have a2 : up2 v0 2 428 (nI k) 2 428 = nI k := up2_at
      generalize up2 u0 2 5 (nI k) = u at *
      generalize up2 v0 2 428 (nI k) = v at *
      refine ⟨?_, ⟨k, a1, by rw [Nat.zero_add]; exact a2, hk'⟩, by rw [eu2 _ (by omega)]; exact h6, by rw [ev2 _ (by omega)]; exact h6', by rw [eu2 _ (by omega), ev2 _ (by omega)]; exact h7, fun j j1 j2 => by rw [eu _ (by omega), ev2 _ (by omega)]; exact hT j j1 j2, ⟨hm, fun i hi => ⟨(hH i hi).1, by rw [eu _ (by unfold stA; omega)]; exact (hH i hi).2.1, by rw [ev2 _ (by omega)]; exact (hH i hi).2.2⟩, hsym⟩, fun i hi => RA.frame (fun x h1 _ => eu x (by unfold stA at h1; omega)) (fun j h1 h2 => ev2 j (by omega)) (hR i hi)⟩
      unfold CFr
      rw [eu2 0 (by omega), eu2 1 (by omega), eu2 2 (by omega), eu2 3 (by omega), eu2 4 (by omega), ev 0 (by omega)]
      exact ⟨c0, c0', hN2, hN6, hl, hmm, c3, hr⟩
  · exact API.same hG (c_X6_drawsX h) (c_X7_drawsX h)

