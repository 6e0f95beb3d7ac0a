/-! the reference reads: items -/
def FM (ν u : Mem) : Prop := (∀ x, x ≠ 0 → x ≠ 2 → x ≠ 4 → u x = ν x) ∧ (∀ k, k ≠ 10 → k ≠ 12 → k ≠ 13 → u 0 k = ν 0 k) ∧ ∀ j, j < 880 → u 2 j = ν 2 j
theorem FM.nm {ν : Mem} {a b : Int32} : FM ν (nmM ν a b) := ⟨fun x h _ _ => nm_x h, fun k _ h1 h2 => nm_k h1 h2, fun j _ => by rw [nm_x (by omega)]⟩
theorem FM.rf {ν : Mem} : FM ν ν := ⟨fun _ _ _ _ => rfl, fun _ _ _ _ => rfl, fun _ _ => rfl⟩
theorem FM.tr {ν u w : Mem} (h1 : FM ν u) (h2 : FM u w) : FM ν w := ⟨fun x a b c => (h2.1 x a b c).trans (h1.1 x a b c), fun k a b c => (h2.2.1 k a b c).trans (h1.2.1 k a b c), fun j a => (h2.2.2 j a).trans (h1.2.2 j a)⟩
theorem FM.u4 {ν : Mem} {k : Nat} {v : Int32} : FM ν (up2 ν 4 k v) := ⟨fun x _ _ h => up2_ne h, fun _ _ _ _ => by rw [up2_ne (by omega)], fun _ _ => by rw [up2_ne (by omega)]⟩
theorem FM.u2 {ν : Mem} {k : Nat} {v : Int32} (hk : 880 ≤ k) : FM ν (up2 ν 2 k v) := ⟨fun x _ h _ => up2_ne h, fun _ _ _ _ => by rw [up2_ne (by omega)], fun j hj => by rw [up2_k (by omega)]⟩
theorem FM.u0 {ν : Mem} {v : Int32} : FM ν (up2 ν 0 10 v) := ⟨fun x h _ _ => up2_ne h, fun k h _ _ => up2_k h, fun j hj => by rw [up2_ne (by omega)]⟩
set_option maxHeartbeats 4000000 in
set_option maxRecDepth 100000 in
theorem c_X7_readsPair {ν : Mem} {tx : Nat → Nat} {l p : Nat} (hT : MT ν tx l) (hp : p ≤ l) {N : Nat} (h0 : ν 0 10 = nI N) (hN : N ≤ 6) (hN1 : 1 ≤ N)  : Con shM mX7_readsPair [.ref 0, .int (nI p)] ν (fun r u => (r = 1 ∧ (nO tx l p 0 (N - 1) ∧ lat tx l (nE tx l p) = 44 ∧ nO tx l (nE tx l p + 1) 0 (N - 1) ∧ (nV tx l (nE tx l p + 1)) ≠ (nV tx l p)) ∧ u = hrsF (nmM ν (nI (nV tx l (nE tx l p + 1))) (nI (nE tx l (nE tx l p + 1)))) 2 (nV tx l p) (nV tx l (nE tx l p + 1))) ∨ (r = 0 ∧ ¬ (nO tx l p 0 (N - 1) ∧ lat tx l (nE tx l p) = 44 ∧ nO tx l (nE tx l p + 1) 0 (N - 1) ∧ (nV tx l (nE tx l p + 1)) ≠ (nV tx l p)) ∧ FM ν u)) := by
  have m0 : shM[0]? = some (7, 18, [none, some 1, none, none, none, none, none, some 2, some 3, none, none, some 4, none, none, some 5, some 6, some 7, some 8]) := rfl
  have m1 : shM[1]? = some (100, 200, []) := rfl
  have m2 : shM[2]? = some (100, 1320, []) := rfl
  have m3 : shM[3]? = some (100, 1760, []) := rfl
  have m4 : shM[4]? = some (100, 4, []) := rfl
  have m5 : shM[5]? = some (100, 6, []) := rfl
  have m6 : shM[6]? = some (100, 6, []) := rfl
  have m7 : shM[7]? = some (100, 6, []) := rfl
  have m8 : shM[8]? = some (100, 6, []) := rfl
  obtain ⟨hE, hTx, hTX⟩ := id hT
  have hl200 := hTX.1
  have hle1 := nE_le (tx := tx) hp
  have hv1 := nV_lt (tx := tx) (l := l) (p := p)
  have hv2 := nV_lt (tx := tx) (l := l) (p := (nE tx l p + 1))
  have hv3 := nV_lt (tx := tx) (l := l) (p := ((nE tx l (nE tx l p + 1)) + 1))
  refine Con.ofAW (al0 := [some (.ref 0), some (.int (nI p)), none, none]) (by decide) rfl (Nat.le_of_ble_eq_true rfl) rfl ?_
  refine a_aload_n (pc := 0) dX7_readsPair_0 rfl rfl ?_
  refine a_iload_n (pc := 1) dX7_readsPair_1 rfl rfl ?_
  refine a_iconst (pc := 2) (v := 0) dX7_readsPair_2 (by decide) ?_
  refine a_aload_n (pc := 3) dX7_readsPair_3 rfl rfl ?_
  refine a_geti (pc := 4) fl_X7_37 (by assumption) (by decide) (by rfl) dX7_readsPair_4 ?_
  refine a_top (y := nI N) (by first | exact h0 | (rw [nm_k (by omega) (by omega)]; exact h0)) ?_
  refine a_iconst (pc := 7) (v := 1) dX7_readsPair_7 (by decide) ?_
  refine a_isubN (pc := 8) (a := _) (b := 1) rfl rfl hN1 dX7_readsPair_8 ?_
  refine a_callI3 (pc := 9) ck_X7_98 ⟨(Nat.le_of_ble_eq_true rfl), (Nat.le_of_ble_eq_true rfl)⟩ (by assumption) (by decide) (Nat.le_of_ble_eq_true rfl) dX7_readsPair_9 rfl (c_X7_number (lo := 0) hT (by omega) (by omega) (by omega)) ?_
  rintro r1 u ⟨hr1, rfl⟩
  refine a_if_ne (pc := 12) (tgt := 17) dX7_readsPair_12 (by decide) (fun c_12 => ?_) (fun c_12 => ?_)
  · have g1 := (hr1.resolve_right (fun w => c_12 w.1)).2
    refine a_aload_n (pc := 17) dX7_readsPair_17 rfl rfl ?_
    refine a_geti (pc := 18) fl_X7_84 (by assumption) (by decide) (by rfl) dX7_readsPair_18 ?_
    refine a_top (y := nI (nV tx l p)) nm_v ?_
    refine a_istore_n (pc := 21) (al' := [some (.ref _), some (.int _), some (.int _), none]) dX7_readsPair_21 rfl (by decide) rfl rfl ?_
    refine a_aload_n (pc := 22) dX7_readsPair_22 rfl rfl ?_
    refine a_iconst (pc := 23) (v := 0) dX7_readsPair_23 (by decide) ?_
    refine a_aload_n (pc := 24) dX7_readsPair_24 rfl rfl ?_
    refine a_geti (pc := 25) fl_X7_37 (by assumption) (by decide) (by rfl) dX7_readsPair_25 ?_
    refine a_top (y := nI N) (by first | exact h0 | (rw [nm_k (by omega) (by omega)]; exact h0)) ?_
    refine a_iconst (pc := 28) (v := 1) dX7_readsPair_28 (by decide) ?_
    refine a_isubN (pc := 29) (a := _) (b := 1) rfl rfl hN1 dX7_readsPair_29 ?_
    refine a_callI2 (pc := 30) ck_X7_101 ⟨(Nat.le_of_ble_eq_true rfl), (Nat.le_of_ble_eq_true rfl)⟩ (by assumption) (by decide) (Nat.le_of_ble_eq_true rfl) dX7_readsPair_30 rfl (c_X7_more (lo := 0) (hi := N - 1) hT (by omega) (by omega) (by omega)) ?_
    rintro r2 u hr2
    refine a_if_eq (pc := 33) (tgt := 48) dX7_readsPair_33 (by decide) (fun c_33 => ?_) (fun c_33 => ?_)
    · refine a_iconst (pc := 48) (v := 0) dX7_readsPair_48 (by decide) ?_
      refine a_istore_n (pc := 49) (al' := [some (.ref _), some (.int _), some (.int _), some (.int _)]) dX7_readsPair_49 rfl (by decide) rfl rfl ?_
      refine a_iload_n (pc := 50) dX7_readsPair_50 rfl rfl ?_
      refine a_if_eq (pc := 51) (tgt := 64) dX7_readsPair_51 (by decide) (fun c_51 => ?_) (fun c_51 => ?_)
      · refine a_iload_n (pc := 64) dX7_readsPair_64 rfl rfl ?_
        refine a_zret (pc := 65) rfl (by rfl) dX7_readsPair_65 ?_
        first
        | exact Or.inl ⟨rfl, ⟨g1, g2.1, g2.2, n_41⟩, rfl⟩
        | exact Or.inr ⟨rfl, fun q => q.2.2.2 n_41, FM.nm⟩
        | (obtain ⟨-, w, a, b, rfl⟩ := hr2.resolve_left (fun w => absurd (w.1.symm.trans c_33) (by decide)); exact Or.inr ⟨rfl, fun q => w ⟨q.2.1, q.2.2.1⟩, FM.nm⟩)
      · exact absurd c_51 (by decide)
    · obtain ⟨-, g2, rfl⟩ := hr2.resolve_right (fun w => c_33 w.1)
      refine a_aload_n (pc := 36) dX7_readsPair_36 rfl rfl ?_
      refine a_geti (pc := 37) fl_X7_84 (by assumption) (by decide) (by rfl) dX7_readsPair_37 ?_
      refine a_top (y := nI (nV tx l (nE tx l p + 1))) nm_v ?_
      refine a_iload_n (pc := 40) dX7_readsPair_40 rfl rfl ?_
      refine a_icmp_eq (pc := 41) (tgt := 48) dX7_readsPair_41 (by decide) (fun c_41 => ?_) (fun c_41 => ?_)
      · have n_41 : (nV tx l (nE tx l p + 1)) = (nV tx l p) := (nI_eq (a := (nV tx l (nE tx l p + 1))) (b := (nV tx l p)) (by omega) (by omega)).mp c_41
        refine a_iconst (pc := 48) (v := 0) dX7_readsPair_48 (by decide) ?_
        refine a_istore_n (pc := 49) (al' := [some (.ref _), some (.int _), some (.int _), some (.int _)]) dX7_readsPair_49 rfl (by decide) rfl rfl ?_
        refine a_iload_n (pc := 50) dX7_readsPair_50 rfl rfl ?_
        refine a_if_eq (pc := 51) (tgt := 64) dX7_readsPair_51 (by decide) (fun c_51 => ?_) (fun c_51 => ?_)
        · refine a_iload_n (pc := 64) dX7_readsPair_64 rfl rfl ?_
          refine a_zret (pc := 65) rfl (by rfl) dX7_readsPair_65 ?_
          first
          | exact Or.inl ⟨rfl, ⟨g1, g2.1, g2.2, n_41⟩, rfl⟩
          | exact Or.inr ⟨rfl, fun q => q.2.2.2 n_41, FM.nm⟩
          | (obtain ⟨-, w, a, b, rfl⟩ := hr2.resolve_left (fun w => absurd (w.1.symm.trans c_33) (by decide)); exact Or.inr ⟨rfl, fun q => w ⟨q.2.1, q.2.2.1⟩, FM.nm⟩)
        · exact absurd c_51 (by decide)
      · have n_41 : ¬ (nV tx l (nE tx l p + 1)) = (nV tx l p) := fun e_ => c_41 ((nI_eq (a := (nV tx l (nE tx l p + 1))) (b := (nV tx l p)) (by omega) (by omega)).mpr e_)
        refine a_iconst (pc := 44) (v := 1) dX7_readsPair_44 (by decide) ?_
        refine a_goto (pc := 45) (tgt := 49) dX7_readsPair_45 (by decide) ?_
        refine a_istore_n (pc := 49) (al' := [some (.ref _), some (.int _), some (.int _), some (.int _)]) dX7_readsPair_49 rfl (by decide) rfl rfl ?_
        refine a_iload_n (pc := 50) dX7_readsPair_50 rfl rfl ?_
        refine a_if_eq (pc := 51) (tgt := 64) dX7_readsPair_51 (by decide) (fun c_51 => ?_) (fun c_51 => ?_)
        · exact absurd c_51 (by decide)
        · refine a_aload_n (pc := 54) dX7_readsPair_54 rfl rfl ?_
          refine a_iconst (pc := 55) (v := 2) dX7_readsPair_55 (by decide) ?_
          refine a_iload_n (pc := 56) dX7_readsPair_56 rfl rfl ?_
          refine a_aload_n (pc := 57) dX7_readsPair_57 rfl rfl ?_
          refine a_geti (pc := 58) fl_X7_84 (by assumption) (by decide) (by rfl) dX7_readsPair_58 ?_
          refine a_top (y := nI (nV tx l (nE tx l p + 1))) nm_v ?_
          refine a_callV3 (pc := 61) ck_X7_41 ⟨(Nat.le_of_ble_eq_true rfl), (Nat.le_of_ble_eq_true rfl)⟩ (by assumption) (by decide) (Nat.le_of_ble_eq_true rfl) dX7_readsPair_61 rfl (c_X7_hears (r := 2) (by omega) (by have := g1.2.2; omega) (by have := g2.2.2.2; omega) (Ne.symm n_41)) ?_
          rintro u rfl
          refine a_iload_n (pc := 64) dX7_readsPair_64 rfl rfl ?_
          refine a_zret (pc := 65) rfl (by rfl) dX7_readsPair_65 ?_
          first
          | exact Or.inl ⟨rfl, ⟨g1, g2.1, g2.2, n_41⟩, rfl⟩
          | exact Or.inr ⟨rfl, fun q => q.2.2.2 n_41, FM.nm⟩
          | (obtain ⟨-, w, a, b, rfl⟩ := hr2.resolve_left (fun w => absurd (w.1.symm.trans c_33) (by decide)); exact Or.inr ⟨rfl, fun q => w ⟨q.2.1, q.2.2.1⟩, FM.nm⟩)
  · refine a_iconst (pc := 15) (v := 0) dX7_readsPair_15 (by decide) ?_
    refine a_zret (pc := 16) rfl (by rfl) dX7_readsPair_16 ?_
    exact Or.inr ⟨rfl, fun q => (hr1.resolve_left (fun w => absurd (w.1.symm.trans c_12) (by decide))).2 q.1, FM.nm⟩

set_option maxHeartbeats 4000000 in
set_option maxRecDepth 100000 in
theorem c_X7_readsLetter {ν : Mem} {tx : Nat → Nat} {l p : Nat} (hT : MT ν tx l) (hp : p ≤ l) {N : Nat} (h0 : ν 0 10 = nI N) (hN : N ≤ 6) (hN1 : 1 ≤ N) {sz : Nat → Nat} (hs : ∀ i, i < 6 → ν 2 (440 * 2 + 70 * i + 8) = nI (sz i) ∧ sz i ≤ 6)  : Con shM mX7_readsLetter [.ref 0, .int (nI p)] ν (fun r u => (r = 1 ∧ (nO tx l p 0 (N - 1) ∧ lat tx l (nE tx l p) = 44 ∧ nO tx l (nE tx l p + 1) 0 (N - 1) ∧ bitF (ν 2 (1300 + (nV tx l p))) (nI (nV tx l (nE tx l p + 1))) ∧ sz (nV tx l p) < 6 ∧ lat tx l (nE tx l (nE tx l p + 1)) = 44 ∧ nO tx l ((nE tx l (nE tx l p + 1)) + 1) 1 9) ∧ u = adsF (nmM ν (nI (nV tx l ((nE tx l (nE tx l p + 1)) + 1))) (nI (nE tx l ((nE tx l (nE tx l p + 1)) + 1)))) 2 (nV tx l p) (sz (nV tx l p)) (nI (nV tx l (nE tx l p + 1))) (nI (nV tx l ((nE tx l (nE tx l p + 1)) + 1)))) ∨ (r = 0 ∧ ¬ (nO tx l p 0 (N - 1) ∧ lat tx l (nE tx l p) = 44 ∧ nO tx l (nE tx l p + 1) 0 (N - 1) ∧ bitF (ν 2 (1300 + (nV tx l p))) (nI (nV tx l (nE tx l p + 1))) ∧ sz (nV tx l p) < 6 ∧ lat tx l (nE tx l (nE tx l p + 1)) = 44 ∧ nO tx l ((nE tx l (nE tx l p + 1)) + 1) 1 9) ∧ FM ν u)) := by
  have m0 : shM[0]? = some (7, 18, [none, some 1, none, none, none, none, none, some 2, some 3, none, none, some 4, none, none, some 5, some 6, some 7, some 8]) := rfl
  have m1 : shM[1]? = some (100, 200, []) := rfl
  have m2 : shM[2]? = some (100, 1320, []) := rfl
  have m3 : shM[3]? = some (100, 1760, []) := rfl
  have m4 : shM[4]? = some (100, 4, []) := rfl
  have m5 : shM[5]? = some (100, 6, []) := rfl
  have m6 : shM[6]? = some (100, 6, []) := rfl
  have m7 : shM[7]? = some (100, 6, []) := rfl
  have m8 : shM[8]? = some (100, 6, []) := rfl
  obtain ⟨hE, hTx, hTX⟩ := id hT
  have hl200 := hTX.1
  have hle1 := nE_le (tx := tx) hp
  have hv1 := nV_lt (tx := tx) (l := l) (p := p)
  have hv2 := nV_lt (tx := tx) (l := l) (p := (nE tx l p + 1))
  have hv3 := nV_lt (tx := tx) (l := l) (p := ((nE tx l (nE tx l p + 1)) + 1))
  refine Con.ofAW (al0 := [some (.ref 0), some (.int (nI p)), none, none, none]) (by decide) rfl (Nat.le_of_ble_eq_true rfl) rfl ?_
  refine a_aload_n (pc := 0) dX7_readsLetter_0 rfl rfl ?_
  refine a_iload_n (pc := 1) dX7_readsLetter_1 rfl rfl ?_
  refine a_iconst (pc := 2) (v := 0) dX7_readsLetter_2 (by decide) ?_
  refine a_aload_n (pc := 3) dX7_readsLetter_3 rfl rfl ?_
  refine a_geti (pc := 4) fl_X7_37 (by assumption) (by decide) (by rfl) dX7_readsLetter_4 ?_
  refine a_top (y := nI N) (by first | exact h0 | (rw [nm_k (by omega) (by omega)]; exact h0)) ?_
  refine a_iconst (pc := 7) (v := 1) dX7_readsLetter_7 (by decide) ?_
  refine a_isubN (pc := 8) (a := _) (b := 1) rfl rfl hN1 dX7_readsLetter_8 ?_
  refine a_callI3 (pc := 9) ck_X7_98 ⟨(Nat.le_of_ble_eq_true rfl), (Nat.le_of_ble_eq_true rfl)⟩ (by assumption) (by decide) (Nat.le_of_ble_eq_true rfl) dX7_readsLetter_9 rfl (c_X7_number (lo := 0) hT (by omega) (by omega) (by omega)) ?_
  rintro r1 u ⟨hr1, rfl⟩
  refine a_if_ne (pc := 12) (tgt := 17) dX7_readsLetter_12 (by decide) (fun c_12 => ?_) (fun c_12 => ?_)
  · have g1 := (hr1.resolve_right (fun w => c_12 w.1)).2
    have hi6 : (nV tx l p) < 6 := by have := g1.2.2; omega
    have hsz := (hs _ hi6).2
    refine a_aload_n (pc := 17) dX7_readsLetter_17 rfl rfl ?_
    refine a_geti (pc := 18) fl_X7_84 (by assumption) (by decide) (by rfl) dX7_readsLetter_18 ?_
    refine a_top (y := nI (nV tx l p)) nm_v ?_
    refine a_istore_n (pc := 21) (al' := [some (.ref _), some (.int _), some (.int _), none, none]) dX7_readsLetter_21 rfl (by decide) rfl rfl ?_
    refine a_aload_n (pc := 22) dX7_readsLetter_22 rfl rfl ?_
    refine a_iconst (pc := 23) (v := 0) dX7_readsLetter_23 (by decide) ?_
    refine a_aload_n (pc := 24) dX7_readsLetter_24 rfl rfl ?_
    refine a_geti (pc := 25) fl_X7_37 (by assumption) (by decide) (by rfl) dX7_readsLetter_25 ?_
    refine a_top (y := nI N) (by first | exact h0 | (rw [nm_k (by omega) (by omega)]; exact h0)) ?_
    refine a_iconst (pc := 28) (v := 1) dX7_readsLetter_28 (by decide) ?_
    refine a_isubN (pc := 29) (a := _) (b := 1) rfl rfl hN1 dX7_readsLetter_29 ?_
    refine a_callI2 (pc := 30) ck_X7_101 ⟨(Nat.le_of_ble_eq_true rfl), (Nat.le_of_ble_eq_true rfl)⟩ (by assumption) (by decide) (Nat.le_of_ble_eq_true rfl) dX7_readsLetter_30 rfl (c_X7_more (lo := 0) (hi := N - 1) hT (by omega) (by omega) (by omega)) ?_
    rintro r2 u hr2
    refine a_if_eq (pc := 33) (tgt := 56) dX7_readsLetter_33 (by decide) (fun c_33 => ?_) (fun c_33 => ?_)
    · refine a_iconst (pc := 56) (v := 0) dX7_readsLetter_56 (by decide) ?_
      refine a_zret (pc := 57) rfl (by rfl) dX7_readsLetter_57 ?_
      first
      | (have w := (hr3.resolve_left (fun w => absurd (w.1.symm.trans c_53) (by decide))).2; exact Or.inr ⟨rfl, fun q => w q.2.2.2.1, FM.nm⟩)
      | (obtain ⟨-, w, a, b, rfl⟩ := hr2.resolve_left (fun w => absurd (w.1.symm.trans c_33) (by decide)); exact Or.inr ⟨rfl, fun q => w ⟨q.2.1, q.2.2.1⟩, FM.nm⟩)
    · obtain ⟨-, g2, rfl⟩ := hr2.resolve_right (fun w => c_33 w.1)
      have hq1 : (nE tx l p + 1) ≤ l := ((lat_is (by omega)).mp g2.1).1
      have hle2 := nE_le (tx := tx) hq1
      refine a_aload_n (pc := 36) dX7_readsLetter_36 rfl rfl ?_
      refine a_getr (pc := 37) fl_X7_13 (by assumption) (by decide) (by rfl) dX7_readsLetter_37 ?_
      refine a_sipush (pc := 40) (v := 1300) dX7_readsLetter_40 (by decide) ?_
      refine a_iload_n (pc := 43) dX7_readsLetter_43 rfl rfl ?_
      refine a_iaddN (pc := 44) (a := 1300) (b := _) rfl rfl dX7_readsLetter_44 ?_
      refine a_iald (pc := 45) (j := (1300 + (nV tx l p))) (by assumption) rfl (by have := g1.2.2; omega) (by decide) dX7_readsLetter_45 ?_
      refine a_top (y := ν 2 (1300 + (nV tx l p))) (by rw [nm_x (by omega)]) ?_
      refine a_aload_n (pc := 46) dX7_readsLetter_46 rfl rfl ?_
      refine a_geti (pc := 47) fl_X7_84 (by assumption) (by decide) (by rfl) dX7_readsLetter_47 ?_
      refine a_top (y := nI (nV tx l (nE tx l p + 1))) nm_v ?_
      refine a_callS2 (pc := 50) cs_X7_105 ⟨(Nat.le_of_ble_eq_true rfl), (Nat.le_of_ble_eq_true rfl)⟩ (Nat.le_of_ble_eq_true rfl) dX7_readsLetter_50 rfl c_X7_has ?_
      rintro r3 u ⟨hr3, rfl⟩
      refine a_if_ne (pc := 53) (tgt := 58) dX7_readsLetter_53 (by decide) (fun c_53 => ?_) (fun c_53 => ?_)
      · have g3 := (hr3.resolve_right (fun w => c_53 w.1)).2
        refine a_aload_n (pc := 58) dX7_readsLetter_58 rfl rfl ?_
        refine a_geti (pc := 59) fl_X7_84 (by assumption) (by decide) (by rfl) dX7_readsLetter_59 ?_
        refine a_top (y := nI (nV tx l (nE tx l p + 1))) nm_v ?_
        refine a_istore_n (pc := 62) (al' := [some (.ref _), some (.int _), some (.int _), some (.int _), none]) dX7_readsLetter_62 rfl (by decide) rfl rfl ?_
        refine a_aload_n (pc := 63) dX7_readsLetter_63 rfl rfl ?_
        refine a_getr (pc := 64) fl_X7_13 (by assumption) (by decide) (by rfl) dX7_readsLetter_64 ?_
        refine a_iconst (pc := 67) (v := 2) dX7_readsLetter_67 (by decide) ?_
        refine a_iload_n (pc := 68) dX7_readsLetter_68 rfl rfl ?_
        refine a_callS2 (pc := 69) cs_X7_52 ⟨(Nat.le_of_ble_eq_true rfl), (Nat.le_of_ble_eq_true rfl)⟩ (Nat.le_of_ble_eq_true rfl) dX7_readsLetter_69 rfl (c_X7_at (r := 2)) ?_
        rintro r_ u ⟨rfl, rfl⟩
        refine a_bipush (pc := 72) (v := 8) dX7_readsLetter_72 (by decide) ?_
        refine a_iaddN (pc := 74) (a := _) (b := 8) rfl rfl dX7_readsLetter_74 ?_
        refine a_iald (pc := 75)  (by assumption) rfl (by omega) (by decide) dX7_readsLetter_75 ?_
        refine a_top (y := nI (sz (nV tx l p))) (by rw [nm_x (by omega)]; exact (hs _ hi6).1) ?_
        refine a_bipush (pc := 76) (v := 6) dX7_readsLetter_76 (by decide) ?_
        refine a_icmp_ge (pc := 78) (tgt := 95) dX7_readsLetter_78 (by decide) (fun c_78 => ?_) (fun c_78 => ?_)
        · have n_78 : 6 ≤ (sz (nV tx l p)) := (nI_leI (a := 6) (b := (sz (nV tx l p))) (by omega) (by omega)).mp c_78
          refine a_iconst (pc := 95) (v := 0) dX7_readsLetter_95 (by decide) ?_
          refine a_istore (pc := 96) (al' := [some (.ref _), some (.int _), some (.int _), some (.int _), some (.int _)]) dX7_readsLetter_96 (by decide) rfl rfl ?_
          refine a_iload (pc := 98) dX7_readsLetter_98 rfl ?_
          refine a_if_eq (pc := 100) (tgt := 114) dX7_readsLetter_100 (by decide) (fun c_100 => ?_) (fun c_100 => ?_)
          · refine a_iload (pc := 114) dX7_readsLetter_114 rfl ?_
            refine a_zret (pc := 116) rfl (by rfl) dX7_readsLetter_116 ?_
            first
            | exact Or.inl ⟨rfl, ⟨g1, g2.1, g2.2, g3, n_78, g4.1, g4.2⟩, rfl⟩
            | (obtain ⟨-, w, a, b, rfl⟩ := hr4.resolve_left (fun w => absurd (w.1.symm.trans c_88) (by decide)); exact Or.inr ⟨rfl, fun q => w ⟨q.2.2.2.2.2.1, q.2.2.2.2.2.2⟩, FM.nm⟩)
            | exact Or.inr ⟨rfl, fun q => absurd q.2.2.2.2.1 (by omega), FM.nm⟩
          · exact absurd c_100 (by decide)
        · have n_78 : (sz (nV tx l p)) < 6 := (nI_ltI (a := (sz (nV tx l p))) (b := 6) (by omega) (by omega)).mp (Int32.not_le.mp c_78)
          refine a_aload_n (pc := 81) dX7_readsLetter_81 rfl rfl ?_
          refine a_iconst (pc := 82) (v := 1) dX7_readsLetter_82 (by decide) ?_
          refine a_bipush (pc := 83) (v := 9) dX7_readsLetter_83 (by decide) ?_
          refine a_callI2 (pc := 85) ck_X7_101 ⟨(Nat.le_of_ble_eq_true rfl), (Nat.le_of_ble_eq_true rfl)⟩ (by assumption) (by decide) (Nat.le_of_ble_eq_true rfl) dX7_readsLetter_85 rfl (c_X7_more (lo := 1) (hi := 9) hT (by omega) (by omega) (by omega)) ?_
          rintro r4 u hr4
          refine a_if_eq (pc := 88) (tgt := 95) dX7_readsLetter_88 (by decide) (fun c_88 => ?_) (fun c_88 => ?_)
          · refine a_iconst (pc := 95) (v := 0) dX7_readsLetter_95 (by decide) ?_
            refine a_istore (pc := 96) (al' := [some (.ref _), some (.int _), some (.int _), some (.int _), some (.int _)]) dX7_readsLetter_96 (by decide) rfl rfl ?_
            refine a_iload (pc := 98) dX7_readsLetter_98 rfl ?_
            refine a_if_eq (pc := 100) (tgt := 114) dX7_readsLetter_100 (by decide) (fun c_100 => ?_) (fun c_100 => ?_)
            · refine a_iload (pc := 114) dX7_readsLetter_114 rfl ?_
              refine a_zret (pc := 116) rfl (by rfl) dX7_readsLetter_116 ?_
              first
              | exact Or.inl ⟨rfl, ⟨g1, g2.1, g2.2, g3, n_78, g4.1, g4.2⟩, rfl⟩
              | (obtain ⟨-, w, a, b, rfl⟩ := hr4.resolve_left (fun w => absurd (w.1.symm.trans c_88) (by decide)); exact Or.inr ⟨rfl, fun q => w ⟨q.2.2.2.2.2.1, q.2.2.2.2.2.2⟩, FM.nm⟩)
              | exact Or.inr ⟨rfl, fun q => absurd q.2.2.2.2.1 (by omega), FM.nm⟩
            · exact absurd c_100 (by decide)
          · obtain ⟨-, g4, rfl⟩ := hr4.resolve_right (fun w => c_88 w.1)
            refine a_iconst (pc := 91) (v := 1) dX7_readsLetter_91 (by decide) ?_
            refine a_goto (pc := 92) (tgt := 96) dX7_readsLetter_92 (by decide) ?_
            refine a_istore (pc := 96) (al' := [some (.ref _), some (.int _), some (.int _), some (.int _), some (.int _)]) dX7_readsLetter_96 (by decide) rfl rfl ?_
            refine a_iload (pc := 98) dX7_readsLetter_98 rfl ?_
            refine a_if_eq (pc := 100) (tgt := 114) dX7_readsLetter_100 (by decide) (fun c_100 => ?_) (fun c_100 => ?_)
            · exact absurd c_100 (by decide)
            · refine a_aload_n (pc := 103) dX7_readsLetter_103 rfl rfl ?_
              refine a_iconst (pc := 104) (v := 2) dX7_readsLetter_104 (by decide) ?_
              refine a_iload_n (pc := 105) dX7_readsLetter_105 rfl rfl ?_
              refine a_iload_n (pc := 106) dX7_readsLetter_106 rfl rfl ?_
              refine a_aload_n (pc := 107) dX7_readsLetter_107 rfl rfl ?_
              refine a_geti (pc := 108) fl_X7_84 (by assumption) (by decide) (by rfl) dX7_readsLetter_108 ?_
              refine a_top (y := nI (nV tx l ((nE tx l (nE tx l p + 1)) + 1))) nm_v ?_
              refine a_callV4 (pc := 111) ck_X7_45 ⟨(Nat.le_of_ble_eq_true rfl), (Nat.le_of_ble_eq_true rfl)⟩ (by assumption) (by decide) (Nat.le_of_ble_eq_true rfl) dX7_readsLetter_111 rfl (c_X7_adds (r := 2) (s := sz (nV tx l p)) (by omega) hi6 (by rw [nm_x (by omega)]; exact (hs _ hi6).1) n_78) ?_
              rintro u rfl
              refine a_iload (pc := 114) dX7_readsLetter_114 rfl ?_
              refine a_zret (pc := 116) rfl (by rfl) dX7_readsLetter_116 ?_
              first
              | exact Or.inl ⟨rfl, ⟨g1, g2.1, g2.2, g3, n_78, g4.1, g4.2⟩, rfl⟩
              | (obtain ⟨-, w, a, b, rfl⟩ := hr4.resolve_left (fun w => absurd (w.1.symm.trans c_88) (by decide)); exact Or.inr ⟨rfl, fun q => w ⟨q.2.2.2.2.2.1, q.2.2.2.2.2.2⟩, FM.nm⟩)
              | exact Or.inr ⟨rfl, fun q => absurd q.2.2.2.2.1 (by omega), FM.nm⟩
      · refine a_iconst (pc := 56) (v := 0) dX7_readsLetter_56 (by decide) ?_
        refine a_zret (pc := 57) rfl (by rfl) dX7_readsLetter_57 ?_
        first
        | (have w := (hr3.resolve_left (fun w => absurd (w.1.symm.trans c_53) (by decide))).2; exact Or.inr ⟨rfl, fun q => w q.2.2.2.1, FM.nm⟩)
        | (obtain ⟨-, w, a, b, rfl⟩ := hr2.resolve_left (fun w => absurd (w.1.symm.trans c_33) (by decide)); exact Or.inr ⟨rfl, fun q => w ⟨q.2.1, q.2.2.1⟩, FM.nm⟩)
  · refine a_iconst (pc := 15) (v := 0) dX7_readsLetter_15 (by decide) ?_
    refine a_zret (pc := 16) rfl (by rfl) dX7_readsLetter_16 ?_
    exact Or.inr ⟨rfl, fun q => (hr1.resolve_left (fun w => absurd (w.1.symm.trans c_12) (by decide))).2 q.1, FM.nm⟩

set_option maxHeartbeats 4000000 in
set_option maxRecDepth 100000 in
theorem c_X7_readsRules0 {ν : Mem} {tx : Nat → Nat} {l p : Nat} (hT : MT ν tx l) (hp : p ≤ l)  : Con shM mX7_readsRules [.ref 0, .int (nI p), .int 0, .int 64] ν (fun r u => (r = 1 ∧ (nO tx l p 1 16 ∧ lat tx l (nE tx l p) = 44 ∧ nO tx l (nE tx l p + 1) (nV tx l p) 64) ∧ u = nmM (up2 (up2 ν 4 0 (nI (nV tx l p))) 4 1 (nI (nV tx l (nE tx l p + 1)))) (nI (nV tx l (nE tx l p + 1))) (nI (nE tx l (nE tx l p + 1)))) ∨ (r = 0 ∧ ¬ (nO tx l p 1 16 ∧ lat tx l (nE tx l p) = 44 ∧ nO tx l (nE tx l p + 1) (nV tx l p) 64) ∧ FM ν u)) := by
  have m0 : shM[0]? = some (7, 18, [none, some 1, none, none, none, none, none, some 2, some 3, none, none, some 4, none, none, some 5, some 6, some 7, some 8]) := rfl
  have m1 : shM[1]? = some (100, 200, []) := rfl
  have m2 : shM[2]? = some (100, 1320, []) := rfl
  have m3 : shM[3]? = some (100, 1760, []) := rfl
  have m4 : shM[4]? = some (100, 4, []) := rfl
  have m5 : shM[5]? = some (100, 6, []) := rfl
  have m6 : shM[6]? = some (100, 6, []) := rfl
  have m7 : shM[7]? = some (100, 6, []) := rfl
  have m8 : shM[8]? = some (100, 6, []) := rfl
  obtain ⟨hE, hTx, hTX⟩ := id hT
  have hl200 := hTX.1
  have hle1 := nE_le (tx := tx) hp
  have hv1 := nV_lt (tx := tx) (l := l) (p := p)
  have hv2 := nV_lt (tx := tx) (l := l) (p := (nE tx l p + 1))
  have hv3 := nV_lt (tx := tx) (l := l) (p := ((nE tx l (nE tx l p + 1)) + 1))
  refine Con.ofAW (al0 := [some (.ref 0), some (.int (nI p)), some (.int 0), some (.int 64), none]) (by decide) rfl (Nat.le_of_ble_eq_true rfl) rfl ?_
  refine a_aload_n (pc := 0) dX7_readsRules_0 rfl rfl ?_
  refine a_iload_n (pc := 1) dX7_readsRules_1 rfl rfl ?_
  refine a_iconst (pc := 2) (v := 1) dX7_readsRules_2 (by decide) ?_
  refine a_iload_n (pc := 3) dX7_readsRules_3 rfl rfl ?_
  refine a_if_ne (pc := 4) (tgt := 12) dX7_readsRules_4 (by decide) (fun c_4 => ?_) (fun c_4 => ?_)
  · exact absurd c_4 (by decide)
  · refine a_bipush (pc := 7) (v := 16) dX7_readsRules_7 (by decide) ?_
    refine a_goto (pc := 9) (tgt := 14) dX7_readsRules_9 (by decide) ?_
    refine a_callI3 (pc := 14) ck_X7_98 ⟨(Nat.le_of_ble_eq_true rfl), (Nat.le_of_ble_eq_true rfl)⟩ (by assumption) (by decide) (Nat.le_of_ble_eq_true rfl) dX7_readsRules_14 rfl (c_X7_number (lo := 1) (hi := 16) hT (by omega) (by omega) (by omega)) ?_
    rintro r1 u ⟨hr1, rfl⟩
    refine a_if_ne (pc := 17) (tgt := 22) dX7_readsRules_17 (by decide) (fun c_17 => ?_) (fun c_17 => ?_)
    · have g1 := (hr1.resolve_right (fun w => c_17 w.1)).2
      refine a_aload_n (pc := 22) dX7_readsRules_22 rfl rfl ?_
      refine a_getr (pc := 23) fl_X7_19 (by assumption) (by decide) (by rfl) dX7_readsRules_23 ?_
      refine a_iload_n (pc := 26) dX7_readsRules_26 rfl rfl ?_
      refine a_aload_n (pc := 27) dX7_readsRules_27 rfl rfl ?_
      refine a_geti (pc := 28) fl_X7_84 (by assumption) (by decide) (by rfl) dX7_readsRules_28 ?_
      refine a_top (y := nI (nV tx l p)) nm_v ?_
      refine a_iast (pc := 31) (j := 0) (by assumption) rfl (by omega) (by decide) dX7_readsRules_31 ?_
      rw [nm_up (by omega)]
      refine a_aload_n (pc := 32) dX7_readsRules_32 rfl rfl ?_
      refine a_iload_n (pc := 33) dX7_readsRules_33 rfl rfl ?_
      refine a_if_ne (pc := 34) (tgt := 44) dX7_readsRules_34 (by decide) (fun c_34 => ?_) (fun c_34 => ?_)
      · exact absurd c_34 (by decide)
      · refine a_aload_n (pc := 37) dX7_readsRules_37 rfl rfl ?_
        refine a_geti (pc := 38) fl_X7_84 (by assumption) (by decide) (by rfl) dX7_readsRules_38 ?_
        refine a_top (y := nI (nV tx l p)) (by rw [nm_v]) ?_
        refine a_goto (pc := 41) (tgt := 45) dX7_readsRules_41 (by decide) ?_
        refine a_iload_n (pc := 45) dX7_readsRules_45 rfl rfl ?_
        refine a_callI2 (pc := 46) ck_X7_101 ⟨(Nat.le_of_ble_eq_true rfl), (Nat.le_of_ble_eq_true rfl)⟩ (by assumption) (by decide) (Nat.le_of_ble_eq_true rfl) dX7_readsRules_46 rfl (c_X7_more (lo := (nV tx l p)) (hi := 64) (MT.up (x := 4) (by omega) (by omega) hT) (by omega) (by omega) (by omega)) ?_
        rintro r2 u hr2
        refine a_istore (pc := 49) (al' := [some (.ref _), some (.int _), some (.int _), some (.int _), some (.int _)]) dX7_readsRules_49 (by decide) rfl rfl ?_
        refine a_aload_n (pc := 51) dX7_readsRules_51 rfl rfl ?_
        refine a_getr (pc := 52) fl_X7_19 (by assumption) (by decide) (by rfl) dX7_readsRules_52 ?_
        refine a_iload_n (pc := 55) dX7_readsRules_55 rfl rfl ?_
        refine a_iconst (pc := 56) (v := 1) dX7_readsRules_56 (by decide) ?_
        refine a_iadd (pc := 57) dX7_readsRules_57 ?_
        refine a_top (y := 1) rfl ?_
        refine a_aload_n (pc := 58) dX7_readsRules_58 rfl rfl ?_
        refine a_geti (pc := 59) fl_X7_84 (by assumption) (by decide) (by rfl) dX7_readsRules_59 ?_
        refine a_iast (pc := 62) (j := 1) (by assumption) rfl (by omega) (by decide) dX7_readsRules_62 ?_
        refine a_iload (pc := 63) dX7_readsRules_63 rfl ?_
        refine a_zret (pc := 65) rfl (bool_nar (by rcases hr2 with w | w; exact Or.inr w.1; exact Or.inl w.1)).1 dX7_readsRules_65 ?_
        rcases hr2 with ⟨w1, w2, rfl⟩ | ⟨w1, w2, a, b, rfl⟩
        · exact Or.inl ⟨w1, ⟨g1, w2⟩, by rw [nm_v, nm_up (by omega)]⟩
        · exact Or.inr ⟨w1, fun q => w2 q.2, (FM.u4.tr FM.nm).tr FM.u4⟩
    · refine a_iconst (pc := 20) (v := 0) dX7_readsRules_20 (by decide) ?_
      refine a_zret (pc := 21) rfl (by rfl) dX7_readsRules_21 ?_
      exact Or.inr ⟨rfl, fun q => (hr1.resolve_left (fun w => absurd (w.1.symm.trans c_17) (by decide))).2 q.1, FM.nm⟩

set_option maxHeartbeats 4000000 in
set_option maxRecDepth 100000 in
theorem c_X7_readsRules2 {ν : Mem} {tx : Nat → Nat} {l p : Nat} (hT : MT ν tx l) (hp : p ≤ l)  : Con shM mX7_readsRules [.ref 0, .int (nI p), .int 2, .int 7] ν (fun r u => (r = 1 ∧ (nO tx l p 1 10 ∧ lat tx l (nE tx l p) = 44 ∧ nO tx l (nE tx l p + 1) 1 7) ∧ u = nmM (up2 (up2 ν 4 2 (nI (nV tx l p))) 4 3 (nI (nV tx l (nE tx l p + 1)))) (nI (nV tx l (nE tx l p + 1))) (nI (nE tx l (nE tx l p + 1)))) ∨ (r = 0 ∧ ¬ (nO tx l p 1 10 ∧ lat tx l (nE tx l p) = 44 ∧ nO tx l (nE tx l p + 1) 1 7) ∧ FM ν u)) := by
  have m0 : shM[0]? = some (7, 18, [none, some 1, none, none, none, none, none, some 2, some 3, none, none, some 4, none, none, some 5, some 6, some 7, some 8]) := rfl
  have m1 : shM[1]? = some (100, 200, []) := rfl
  have m2 : shM[2]? = some (100, 1320, []) := rfl
  have m3 : shM[3]? = some (100, 1760, []) := rfl
  have m4 : shM[4]? = some (100, 4, []) := rfl
  have m5 : shM[5]? = some (100, 6, []) := rfl
  have m6 : shM[6]? = some (100, 6, []) := rfl
  have m7 : shM[7]? = some (100, 6, []) := rfl
  have m8 : shM[8]? = some (100, 6, []) := rfl
  obtain ⟨hE, hTx, hTX⟩ := id hT
  have hl200 := hTX.1
  have hle1 := nE_le (tx := tx) hp
  have hv1 := nV_lt (tx := tx) (l := l) (p := p)
  have hv2 := nV_lt (tx := tx) (l := l) (p := (nE tx l p + 1))
  have hv3 := nV_lt (tx := tx) (l := l) (p := ((nE tx l (nE tx l p + 1)) + 1))
  refine Con.ofAW (al0 := [some (.ref 0), some (.int (nI p)), some (.int 2), some (.int 7), none]) (by decide) rfl (Nat.le_of_ble_eq_true rfl) rfl ?_
  refine a_aload_n (pc := 0) dX7_readsRules_0 rfl rfl ?_
  refine a_iload_n (pc := 1) dX7_readsRules_1 rfl rfl ?_
  refine a_iconst (pc := 2) (v := 1) dX7_readsRules_2 (by decide) ?_
  refine a_iload_n (pc := 3) dX7_readsRules_3 rfl rfl ?_
  refine a_if_ne (pc := 4) (tgt := 12) dX7_readsRules_4 (by decide) (fun c_4 => ?_) (fun c_4 => ?_)
  · refine a_bipush (pc := 12) (v := 10) dX7_readsRules_12 (by decide) ?_
    refine a_callI3 (pc := 14) ck_X7_98 ⟨(Nat.le_of_ble_eq_true rfl), (Nat.le_of_ble_eq_true rfl)⟩ (by assumption) (by decide) (Nat.le_of_ble_eq_true rfl) dX7_readsRules_14 rfl (c_X7_number (lo := 1) (hi := 10) hT (by omega) (by omega) (by omega)) ?_
    rintro r1 u ⟨hr1, rfl⟩
    refine a_if_ne (pc := 17) (tgt := 22) dX7_readsRules_17 (by decide) (fun c_17 => ?_) (fun c_17 => ?_)
    · have g1 := (hr1.resolve_right (fun w => c_17 w.1)).2
      refine a_aload_n (pc := 22) dX7_readsRules_22 rfl rfl ?_
      refine a_getr (pc := 23) fl_X7_19 (by assumption) (by decide) (by rfl) dX7_readsRules_23 ?_
      refine a_iload_n (pc := 26) dX7_readsRules_26 rfl rfl ?_
      refine a_aload_n (pc := 27) dX7_readsRules_27 rfl rfl ?_
      refine a_geti (pc := 28) fl_X7_84 (by assumption) (by decide) (by rfl) dX7_readsRules_28 ?_
      refine a_top (y := nI (nV tx l p)) nm_v ?_
      refine a_iast (pc := 31) (j := 2) (by assumption) rfl (by omega) (by decide) dX7_readsRules_31 ?_
      rw [nm_up (by omega)]
      refine a_aload_n (pc := 32) dX7_readsRules_32 rfl rfl ?_
      refine a_iload_n (pc := 33) dX7_readsRules_33 rfl rfl ?_
      refine a_if_ne (pc := 34) (tgt := 44) dX7_readsRules_34 (by decide) (fun c_34 => ?_) (fun c_34 => ?_)
      · refine a_iconst (pc := 44) (v := 1) dX7_readsRules_44 (by decide) ?_
        refine a_iload_n (pc := 45) dX7_readsRules_45 rfl rfl ?_
        refine a_callI2 (pc := 46) ck_X7_101 ⟨(Nat.le_of_ble_eq_true rfl), (Nat.le_of_ble_eq_true rfl)⟩ (by assumption) (by decide) (Nat.le_of_ble_eq_true rfl) dX7_readsRules_46 rfl (c_X7_more (lo := 1) (hi := 7) (MT.up (x := 4) (by omega) (by omega) hT) (by omega) (by omega) (by omega)) ?_
        rintro r2 u hr2
        refine a_istore (pc := 49) (al' := [some (.ref _), some (.int _), some (.int _), some (.int _), some (.int _)]) dX7_readsRules_49 (by decide) rfl rfl ?_
        refine a_aload_n (pc := 51) dX7_readsRules_51 rfl rfl ?_
        refine a_getr (pc := 52) fl_X7_19 (by assumption) (by decide) (by rfl) dX7_readsRules_52 ?_
        refine a_iload_n (pc := 55) dX7_readsRules_55 rfl rfl ?_
        refine a_iconst (pc := 56) (v := 1) dX7_readsRules_56 (by decide) ?_
        refine a_iadd (pc := 57) dX7_readsRules_57 ?_
        refine a_top (y := 3) rfl ?_
        refine a_aload_n (pc := 58) dX7_readsRules_58 rfl rfl ?_
        refine a_geti (pc := 59) fl_X7_84 (by assumption) (by decide) (by rfl) dX7_readsRules_59 ?_
        refine a_iast (pc := 62) (j := 3) (by assumption) rfl (by omega) (by decide) dX7_readsRules_62 ?_
        refine a_iload (pc := 63) dX7_readsRules_63 rfl ?_
        refine a_zret (pc := 65) rfl (bool_nar (by rcases hr2 with w | w; exact Or.inr w.1; exact Or.inl w.1)).1 dX7_readsRules_65 ?_
        rcases hr2 with ⟨w1, w2, rfl⟩ | ⟨w1, w2, a, b, rfl⟩
        · exact Or.inl ⟨w1, ⟨g1, w2⟩, by rw [nm_v, nm_up (by omega)]⟩
        · exact Or.inr ⟨w1, fun q => w2 q.2, (FM.u4.tr FM.nm).tr FM.u4⟩
      · exact absurd c_34 (by decide)
    · refine a_iconst (pc := 20) (v := 0) dX7_readsRules_20 (by decide) ?_
      refine a_zret (pc := 21) rfl (by rfl) dX7_readsRules_21 ?_
      exact Or.inr ⟨rfl, fun q => (hr1.resolve_left (fun w => absurd (w.1.symm.trans c_17) (by decide))).2 q.1, FM.nm⟩
  · exact absurd c_4 (by decide)

set_option maxHeartbeats 4000000 in
set_option maxRecDepth 100000 in
theorem c_X7_readsItemN {ν : Mem} {p : Nat} : Con shM mX7_readsItem [.ref 0, .int 110, .int (nI p), .int 0] ν (fun r u => r = 0 ∧ ν = u) := by
  have m0 : shM[0]? = some (7, 18, [none, some 1, none, none, none, none, none, some 2, some 3, none, none, some 4, none, none, some 5, some 6, some 7, some 8]) := rfl
  have m1 : shM[1]? = some (100, 200, []) := rfl
  have m2 : shM[2]? = some (100, 1320, []) := rfl
  have m3 : shM[3]? = some (100, 1760, []) := rfl
  have m4 : shM[4]? = some (100, 4, []) := rfl
  have m5 : shM[5]? = some (100, 6, []) := rfl
  have m6 : shM[6]? = some (100, 6, []) := rfl
  have m7 : shM[7]? = some (100, 6, []) := rfl
  have m8 : shM[8]? = some (100, 6, []) := rfl
  refine Con.ofAW (al0 := [some (.ref 0), some (.int 110), some (.int (nI p)), some (.int 0), none, none]) (by decide) rfl (Nat.le_of_ble_eq_true rfl) rfl ?_
  refine a_iload_n (pc := 0) dX7_readsItem_0 rfl rfl ?_
  refine a_iload_n (pc := 1) dX7_readsItem_1 rfl rfl ?_
  refine a_bipush (pc := 2) (v := 110) dX7_readsItem_2 (by decide) ?_
  refine a_icmp_ne (pc := 4) (tgt := 11) dX7_readsItem_4 (by decide) (fun c_4 => ?_) (fun c_4 => ?_)
  · exact absurd c_4 (by decide)
  · refine a_iconst (pc := 7) (v := 1) dX7_readsItem_7 (by decide) ?_
    refine a_goto (pc := 8) (tgt := 12) dX7_readsItem_8 (by decide) ?_
    refine a_icmp_eq (pc := 12) (tgt := 17) dX7_readsItem_12 (by decide) (fun c_12 => ?_) (fun c_12 => ?_)
    · exact absurd c_12 (by decide)
    · refine a_iconst (pc := 15) (v := 0) dX7_readsItem_15 (by decide) ?_
      refine a_zret (pc := 16) rfl (by rfl) dX7_readsItem_16 ?_
      exact ⟨rfl, rfl⟩

set_option maxHeartbeats 4000000 in
set_option maxRecDepth 100000 in
theorem c_X7_readsItemF {ν : Mem} {c : Nat} {p : Nat} (hc : c < 127) (hc2 : c ≠ 110) : Con shM mX7_readsItem [.ref 0, .int (nI c), .int (nI p), .int 1] ν (fun r u => r = 0 ∧ ν = u) := by
  have m0 : shM[0]? = some (7, 18, [none, some 1, none, none, none, none, none, some 2, some 3, none, none, some 4, none, none, some 5, some 6, some 7, some 8]) := rfl
  have m1 : shM[1]? = some (100, 200, []) := rfl
  have m2 : shM[2]? = some (100, 1320, []) := rfl
  have m3 : shM[3]? = some (100, 1760, []) := rfl
  have m4 : shM[4]? = some (100, 4, []) := rfl
  have m5 : shM[5]? = some (100, 6, []) := rfl
  have m6 : shM[6]? = some (100, 6, []) := rfl
  have m7 : shM[7]? = some (100, 6, []) := rfl
  have m8 : shM[8]? = some (100, 6, []) := rfl
  refine Con.ofAW (al0 := [some (.ref 0), some (.int (nI c)), some (.int (nI p)), some (.int 1), none, none]) (by decide) rfl (Nat.le_of_ble_eq_true rfl) rfl ?_
  refine a_iload_n (pc := 0) dX7_readsItem_0 rfl rfl ?_
  refine a_iload_n (pc := 1) dX7_readsItem_1 rfl rfl ?_
  refine a_bipush (pc := 2) (v := 110) dX7_readsItem_2 (by decide) ?_
  refine a_icmp_ne (pc := 4) (tgt := 11) dX7_readsItem_4 (by decide) (fun c_4 => ?_) (fun c_4 => ?_)
  · have n_4 : ¬ c = 110 := fun e_ => c_4 ((nI_eq (a := c) (b := 110) (by omega) (by omega)).mpr e_)
    refine a_iconst (pc := 11) (v := 0) dX7_readsItem_11 (by decide) ?_
    refine a_icmp_eq (pc := 12) (tgt := 17) dX7_readsItem_12 (by decide) (fun c_12 => ?_) (fun c_12 => ?_)
    · exact absurd c_12 (by decide)
    · refine a_iconst (pc := 15) (v := 0) dX7_readsItem_15 (by decide) ?_
      refine a_zret (pc := 16) rfl (by rfl) dX7_readsItem_16 ?_
      exact ⟨rfl, rfl⟩
  · have n_4 : c = 110 := (nI_eq (a := c) (b := 110) (by omega) (by omega)).mp c_4
    exact absurd n_4 hc2

set_option maxHeartbeats 4000000 in
set_option maxRecDepth 100000 in
theorem c_X7_readsItem0 {ν : Mem} {c p : Nat} (hc : c < 127) (hx : c ≠ 104 ∧ c ≠ 108 ∧ c ≠ 110 ∧ c ≠ 116 ∧ c ≠ 119 ∧ c ≠ 122) : Con shM mX7_readsItem [.ref 0, .int (nI c), .int (nI p), .int 0] ν (fun r u => r = 0 ∧ ν = u) := by
  refine Con.ofAW (al0 := [some (.ref 0), some (.int (nI c)), some (.int (nI p)), some (.int 0), none, none]) (by decide) rfl (Nat.le_of_ble_eq_true rfl) rfl ?_
  have k : AW shM mX7_readsItem 194 [some (.ref 0), some (.int (nI c)), some (.int (nI p)), some (.int 0), none, none] [] ν (fun r u => r = 0 ∧ ν = u) := by
    refine a_iconst (pc := 194) (v := 0) dX7_readsItem_194 (by decide) ?_
    refine a_zret (pc := 195) rfl (by rfl) dX7_readsItem_195 ?_
    exact ⟨rfl, rfl⟩
  have hin : ∀ c, c < 127 → (c ≠ 104 ∧ c ≠ 108 ∧ c ≠ 110 ∧ c ≠ 116 ∧ c ≠ 119 ∧ c ≠ 122) → ((nI c).toInt < 104 ∨ 122 < (nI c).toInt) ∨ (¬ (nI c).toInt < 104 ∧ ¬ 122 < (nI c).toInt ∧ (#[120, 176, 176, 176, 126, 176, 90, 176, 176, 176, 176, 176, 141, 176, 176, 132, 176, 176, 150] : Array Int)[((nI c).toInt - 104).toNat]? = some 176) := by decide +kernel
  refine a_iload_n (pc := 0) dX7_readsItem_0 rfl rfl ?_
  refine a_iload_n (pc := 1) dX7_readsItem_1 rfl rfl ?_
  refine a_bipush (pc := 2) (v := 110) dX7_readsItem_2 (by decide) ?_
  refine a_icmp_ne (pc := 4) (tgt := 11) dX7_readsItem_4 (by decide) (fun c_4 => ?_) (fun c_4 => ?_)
  · have n_4 : ¬ c = 110 := fun e_ => c_4 ((nI_eq (a := c) (b := 110) (by omega) (by omega)).mpr e_)
    refine a_iconst (pc := 11) (v := 0) dX7_readsItem_11 (by decide) ?_
    refine a_icmp_eq (pc := 12) (tgt := 17) dX7_readsItem_12 (by decide) (fun c_12 => ?_) (fun c_12 => ?_)
    · refine a_iload_n (pc := 17) dX7_readsItem_17 rfl rfl ?_
      rcases hin c hc hx with w | w
      · exact a_tableOut (pc := 18) (tgt := 194) dX7_readsItem_18 w (by decide) k
      · exact a_tableIn (pc := 18) (off := 176) (tgt := 194) dX7_readsItem_18 w.1 w.2.1 w.2.2 (by decide) k
    · exact absurd c_12 (by decide)
  · have n_4 : c = 110 := (nI_eq (a := c) (b := 110) (by omega) (by omega)).mp c_4
    exact absurd n_4 hx.2.2.1

set_option maxHeartbeats 4000000 in
set_option maxRecDepth 100000 in
theorem c_X7_readsItem110 {ν : Mem} {tx : Nat → Nat} {l p : Nat} (hT : MT ν tx l) (hp : p ≤ l)  : Con shM mX7_readsItem [.ref 0, .int 110, .int (nI p), .int 1] ν (fun r u => (r = 1 ∧ nO tx l p 2 6 ∧ u = up2 (nmM ν (nI (nV tx l p)) (nI (nE tx l p))) 0 10 (nI (nV tx l p))) ∨ (r = 0 ∧ ¬ nO tx l p 2 6 ∧ FM ν u)) := by
  have m0 : shM[0]? = some (7, 18, [none, some 1, none, none, none, none, none, some 2, some 3, none, none, some 4, none, none, some 5, some 6, some 7, some 8]) := rfl
  have m1 : shM[1]? = some (100, 200, []) := rfl
  have m2 : shM[2]? = some (100, 1320, []) := rfl
  have m3 : shM[3]? = some (100, 1760, []) := rfl
  have m4 : shM[4]? = some (100, 4, []) := rfl
  have m5 : shM[5]? = some (100, 6, []) := rfl
  have m6 : shM[6]? = some (100, 6, []) := rfl
  have m7 : shM[7]? = some (100, 6, []) := rfl
  have m8 : shM[8]? = some (100, 6, []) := rfl
  obtain ⟨hE, hTx, hTX⟩ := id hT
  have hl200 := hTX.1
  have hle1 := nE_le (tx := tx) hp
  have hv1 := nV_lt (tx := tx) (l := l) (p := p)
  have hv2 := nV_lt (tx := tx) (l := l) (p := (nE tx l p + 1))
  have hv3 := nV_lt (tx := tx) (l := l) (p := ((nE tx l (nE tx l p + 1)) + 1))
  refine Con.ofAW (al0 := [some (.ref 0), some (.int 110), some (.int (nI p)), some (.int 1), none, none]) (by decide) rfl (Nat.le_of_ble_eq_true rfl) rfl ?_
  refine a_iload_n (pc := 0) dX7_readsItem_0 rfl rfl ?_
  refine a_iload_n (pc := 1) dX7_readsItem_1 rfl rfl ?_
  refine a_bipush (pc := 2) (v := 110) dX7_readsItem_2 (by decide) ?_
  refine a_icmp_ne (pc := 4) (tgt := 11) dX7_readsItem_4 (by decide) (fun c_4 => ?_) (fun c_4 => ?_)
  · exact absurd c_4 (by decide)
  · refine a_iconst (pc := 7) (v := 1) dX7_readsItem_7 (by decide) ?_
    refine a_goto (pc := 8) (tgt := 12) dX7_readsItem_8 (by decide) ?_
    refine a_icmp_eq (pc := 12) (tgt := 17) dX7_readsItem_12 (by decide) (fun c_12 => ?_) (fun c_12 => ?_)
    · refine a_iload_n (pc := 17) dX7_readsItem_17 rfl rfl ?_
      refine a_tableIn (pc := 18) (off := 90) (tgt := 108) dX7_readsItem_18 (by decide) (by decide) (by decide) (by decide) ?_
      refine a_aload_n (pc := 108) dX7_readsItem_108 rfl rfl ?_
      refine a_iload_n (pc := 109) dX7_readsItem_109 rfl rfl ?_
      refine a_iconst (pc := 110) (v := 2) dX7_readsItem_110 (by decide) ?_
      refine a_bipush (pc := 111) (v := 6) dX7_readsItem_111 (by decide) ?_
      refine a_callI3 (pc := 113) ck_X7_98 ⟨(Nat.le_of_ble_eq_true rfl), (Nat.le_of_ble_eq_true rfl)⟩ (by assumption) (by decide) (Nat.le_of_ble_eq_true rfl) dX7_readsItem_113 rfl (c_X7_number (lo := 2) (hi := 6) hT (by omega) (by omega) (by omega)) ?_
      rintro r1 u ⟨hr1, rfl⟩
      refine a_istore (pc := 116) (al' := [some (.ref _), some (.int _), some (.int _), some (.int _), some (.int _), none]) dX7_readsItem_116 (by decide) rfl rfl ?_
      refine a_aload_n (pc := 118) dX7_readsItem_118 rfl rfl ?_
      refine a_iload (pc := 119) dX7_readsItem_119 rfl ?_
      refine a_if_eq (pc := 121) (tgt := 131) dX7_readsItem_121 (by decide) (fun c_121 => ?_) (fun c_121 => ?_)
      · refine a_iconst (pc := 131) (v := 0) dX7_readsItem_131 (by decide) ?_
        refine a_puti (pc := 132) fp_X7_37 (by assumption) (by decide) (by rfl) dX7_readsItem_132 ?_
        refine a_iload (pc := 135) dX7_readsItem_135 rfl ?_
        refine a_zret (pc := 137) rfl (bool_nar (by rcases hr1 with w | w; exact Or.inr w.1; exact Or.inl w.1)).1 dX7_readsItem_137 ?_
        first
        | (have w := hr1.resolve_right (fun w => c_121 w.1); exact Or.inl ⟨w.1, w.2, rfl⟩)
        | (have w := hr1.resolve_left (fun w => absurd (w.1.symm.trans c_121) (by decide)); exact Or.inr ⟨w.1, w.2, FM.nm.tr FM.u0⟩)
      · refine a_aload_n (pc := 124) dX7_readsItem_124 rfl rfl ?_
        refine a_geti (pc := 125) fl_X7_84 (by assumption) (by decide) (by rfl) dX7_readsItem_125 ?_
        refine a_top (y := nI (nV tx l p)) nm_v ?_
        refine a_goto (pc := 128) (tgt := 132) dX7_readsItem_128 (by decide) ?_
        refine a_puti (pc := 132) fp_X7_37 (by assumption) (by decide) (by rfl) dX7_readsItem_132 ?_
        refine a_iload (pc := 135) dX7_readsItem_135 rfl ?_
        refine a_zret (pc := 137) rfl (bool_nar (by rcases hr1 with w | w; exact Or.inr w.1; exact Or.inl w.1)).1 dX7_readsItem_137 ?_
        first
        | (have w := hr1.resolve_right (fun w => c_121 w.1); exact Or.inl ⟨w.1, w.2, rfl⟩)
        | (have w := hr1.resolve_left (fun w => absurd (w.1.symm.trans c_121) (by decide)); exact Or.inr ⟨w.1, w.2, FM.nm.tr FM.u0⟩)
    · exact absurd c_12 (by decide)

set_option maxHeartbeats 4000000 in
set_option maxRecDepth 100000 in
theorem c_X7_readsItem104 {ν : Mem} {tx : Nat → Nat} {l p : Nat} (hT : MT ν tx l) (hp : p ≤ l) {N : Nat} (h0 : ν 0 10 = nI N) (hN : N ≤ 6) (hN1 : 1 ≤ N)  : Con shM mX7_readsItem [.ref 0, .int 104, .int (nI p), .int 0] ν (fun r u => (r = 1 ∧ (nO tx l p 0 (N - 1) ∧ lat tx l (nE tx l p) = 44 ∧ nO tx l (nE tx l p + 1) 0 (N - 1) ∧ (nV tx l (nE tx l p + 1)) ≠ (nV tx l p)) ∧ u = hrsF (nmM ν (nI (nV tx l (nE tx l p + 1))) (nI (nE tx l (nE tx l p + 1)))) 2 (nV tx l p) (nV tx l (nE tx l p + 1))) ∨ (r = 0 ∧ ¬ (nO tx l p 0 (N - 1) ∧ lat tx l (nE tx l p) = 44 ∧ nO tx l (nE tx l p + 1) 0 (N - 1) ∧ (nV tx l (nE tx l p + 1)) ≠ (nV tx l p)) ∧ FM ν u)) := by
  have m0 : shM[0]? = some (7, 18, [none, some 1, none, none, none, none, none, some 2, some 3, none, none, some 4, none, none, some 5, some 6, some 7, some 8]) := rfl
  have m1 : shM[1]? = some (100, 200, []) := rfl
  have m2 : shM[2]? = some (100, 1320, []) := rfl
  have m3 : shM[3]? = some (100, 1760, []) := rfl
  have m4 : shM[4]? = some (100, 4, []) := rfl
  have m5 : shM[5]? = some (100, 6, []) := rfl
  have m6 : shM[6]? = some (100, 6, []) := rfl
  have m7 : shM[7]? = some (100, 6, []) := rfl
  have m8 : shM[8]? = some (100, 6, []) := rfl
  refine Con.ofAW (al0 := [some (.ref 0), some (.int 104), some (.int (nI p)), some (.int 0), none, none]) (by decide) rfl (Nat.le_of_ble_eq_true rfl) rfl ?_
  refine a_iload_n (pc := 0) dX7_readsItem_0 rfl rfl ?_
  refine a_iload_n (pc := 1) dX7_readsItem_1 rfl rfl ?_
  refine a_bipush (pc := 2) (v := 110) dX7_readsItem_2 (by decide) ?_
  refine a_icmp_ne (pc := 4) (tgt := 11) dX7_readsItem_4 (by decide) (fun c_4 => ?_) (fun c_4 => ?_)
  · refine a_iconst (pc := 11) (v := 0) dX7_readsItem_11 (by decide) ?_
    refine a_icmp_eq (pc := 12) (tgt := 17) dX7_readsItem_12 (by decide) (fun c_12 => ?_) (fun c_12 => ?_)
    · refine a_iload_n (pc := 17) dX7_readsItem_17 rfl rfl ?_
      refine a_tableIn (pc := 18) (off := 120) (tgt := 138) dX7_readsItem_18 (by decide) (by decide) (by decide) (by decide) ?_
      refine a_aload_n (pc := 138) dX7_readsItem_138 rfl rfl ?_
      refine a_iload_n (pc := 139) dX7_readsItem_139 rfl rfl ?_
      refine a_callI1 (pc := 140) ck_X7_108 ⟨(Nat.le_of_ble_eq_true rfl), (Nat.le_of_ble_eq_true rfl)⟩ (by assumption) (by decide) (Nat.le_of_ble_eq_true rfl) dX7_readsItem_140 rfl (c_X7_readsPair hT hp h0 hN hN1) ?_
      rintro r u hr
      refine a_zret (pc := 143) rfl (bool_nar (by rcases hr with w | w; exact Or.inr w.1; exact Or.inl w.1)).1 dX7_readsItem_143 ?_
      exact hr
    · exact absurd c_12 (by decide)
  · exact absurd c_4 (by decide)

set_option maxHeartbeats 4000000 in
set_option maxRecDepth 100000 in
theorem c_X7_readsItem108 {ν : Mem} {tx : Nat → Nat} {l p : Nat} (hT : MT ν tx l) (hp : p ≤ l) {N : Nat} (h0 : ν 0 10 = nI N) (hN : N ≤ 6) (hN1 : 1 ≤ N) {sz : Nat → Nat} (hs : ∀ i, i < 6 → ν 2 (440 * 2 + 70 * i + 8) = nI (sz i) ∧ sz i ≤ 6)  : Con shM mX7_readsItem [.ref 0, .int 108, .int (nI p), .int 0] ν (fun r u => (r = 1 ∧ (nO tx l p 0 (N - 1) ∧ lat tx l (nE tx l p) = 44 ∧ nO tx l (nE tx l p + 1) 0 (N - 1) ∧ bitF (ν 2 (1300 + (nV tx l p))) (nI (nV tx l (nE tx l p + 1))) ∧ sz (nV tx l p) < 6 ∧ lat tx l (nE tx l (nE tx l p + 1)) = 44 ∧ nO tx l ((nE tx l (nE tx l p + 1)) + 1) 1 9) ∧ u = adsF (nmM ν (nI (nV tx l ((nE tx l (nE tx l p + 1)) + 1))) (nI (nE tx l ((nE tx l (nE tx l p + 1)) + 1)))) 2 (nV tx l p) (sz (nV tx l p)) (nI (nV tx l (nE tx l p + 1))) (nI (nV tx l ((nE tx l (nE tx l p + 1)) + 1)))) ∨ (r = 0 ∧ ¬ (nO tx l p 0 (N - 1) ∧ lat tx l (nE tx l p) = 44 ∧ nO tx l (nE tx l p + 1) 0 (N - 1) ∧ bitF (ν 2 (1300 + (nV tx l p))) (nI (nV tx l (nE tx l p + 1))) ∧ sz (nV tx l p) < 6 ∧ lat tx l (nE tx l (nE tx l p + 1)) = 44 ∧ nO tx l ((nE tx l (nE tx l p + 1)) + 1) 1 9) ∧ FM ν u)) := by
  have m0 : shM[0]? = some (7, 18, [none, some 1, none, none, none, none, none, some 2, some 3, none, none, some 4, none, none, some 5, some 6, some 7, some 8]) := rfl
  have m1 : shM[1]? = some (100, 200, []) := rfl
  have m2 : shM[2]? = some (100, 1320, []) := rfl
  have m3 : shM[3]? = some (100, 1760, []) := rfl
  have m4 : shM[4]? = some (100, 4, []) := rfl
  have m5 : shM[5]? = some (100, 6, []) := rfl
  have m6 : shM[6]? = some (100, 6, []) := rfl
  have m7 : shM[7]? = some (100, 6, []) := rfl
  have m8 : shM[8]? = some (100, 6, []) := rfl
  refine Con.ofAW (al0 := [some (.ref 0), some (.int 108), some (.int (nI p)), some (.int 0), none, none]) (by decide) rfl (Nat.le_of_ble_eq_true rfl) rfl ?_
  refine a_iload_n (pc := 0) dX7_readsItem_0 rfl rfl ?_
  refine a_iload_n (pc := 1) dX7_readsItem_1 rfl rfl ?_
  refine a_bipush (pc := 2) (v := 110) dX7_readsItem_2 (by decide) ?_
  refine a_icmp_ne (pc := 4) (tgt := 11) dX7_readsItem_4 (by decide) (fun c_4 => ?_) (fun c_4 => ?_)
  · refine a_iconst (pc := 11) (v := 0) dX7_readsItem_11 (by decide) ?_
    refine a_icmp_eq (pc := 12) (tgt := 17) dX7_readsItem_12 (by decide) (fun c_12 => ?_) (fun c_12 => ?_)
    · refine a_iload_n (pc := 17) dX7_readsItem_17 rfl rfl ?_
      refine a_tableIn (pc := 18) (off := 126) (tgt := 144) dX7_readsItem_18 (by decide) (by decide) (by decide) (by decide) ?_
      refine a_aload_n (pc := 144) dX7_readsItem_144 rfl rfl ?_
      refine a_iload_n (pc := 145) dX7_readsItem_145 rfl rfl ?_
      refine a_callI1 (pc := 146) ck_X7_112 ⟨(Nat.le_of_ble_eq_true rfl), (Nat.le_of_ble_eq_true rfl)⟩ (by assumption) (by decide) (Nat.le_of_ble_eq_true rfl) dX7_readsItem_146 rfl (c_X7_readsLetter hT hp h0 hN hN1 hs) ?_
      rintro r u hr
      refine a_zret (pc := 149) rfl (bool_nar (by rcases hr with w | w; exact Or.inr w.1; exact Or.inl w.1)).1 dX7_readsItem_149 ?_
      exact hr
    · exact absurd c_12 (by decide)
  · exact absurd c_4 (by decide)

set_option maxHeartbeats 4000000 in
set_option maxRecDepth 100000 in
theorem c_X7_readsItem119 {ν : Mem} {tx : Nat → Nat} {l p : Nat} (hT : MT ν tx l) (hp : p ≤ l)  : Con shM mX7_readsItem [.ref 0, .int 119, .int (nI p), .int 0] ν (fun r u => (r = 1 ∧ (nO tx l p 1 16 ∧ lat tx l (nE tx l p) = 44 ∧ nO tx l (nE tx l p + 1) (nV tx l p) 64) ∧ u = nmM (up2 (up2 ν 4 0 (nI (nV tx l p))) 4 1 (nI (nV tx l (nE tx l p + 1)))) (nI (nV tx l (nE tx l p + 1))) (nI (nE tx l (nE tx l p + 1)))) ∨ (r = 0 ∧ ¬ (nO tx l p 1 16 ∧ lat tx l (nE tx l p) = 44 ∧ nO tx l (nE tx l p + 1) (nV tx l p) 64) ∧ FM ν u)) := by
  have m0 : shM[0]? = some (7, 18, [none, some 1, none, none, none, none, none, some 2, some 3, none, none, some 4, none, none, some 5, some 6, some 7, some 8]) := rfl
  have m1 : shM[1]? = some (100, 200, []) := rfl
  have m2 : shM[2]? = some (100, 1320, []) := rfl
  have m3 : shM[3]? = some (100, 1760, []) := rfl
  have m4 : shM[4]? = some (100, 4, []) := rfl
  have m5 : shM[5]? = some (100, 6, []) := rfl
  have m6 : shM[6]? = some (100, 6, []) := rfl
  have m7 : shM[7]? = some (100, 6, []) := rfl
  have m8 : shM[8]? = some (100, 6, []) := rfl
  refine Con.ofAW (al0 := [some (.ref 0), some (.int 119), some (.int (nI p)), some (.int 0), none, none]) (by decide) rfl (Nat.le_of_ble_eq_true rfl) rfl ?_
  refine a_iload_n (pc := 0) dX7_readsItem_0 rfl rfl ?_
  refine a_iload_n (pc := 1) dX7_readsItem_1 rfl rfl ?_
  refine a_bipush (pc := 2) (v := 110) dX7_readsItem_2 (by decide) ?_
  refine a_icmp_ne (pc := 4) (tgt := 11) dX7_readsItem_4 (by decide) (fun c_4 => ?_) (fun c_4 => ?_)
  · refine a_iconst (pc := 11) (v := 0) dX7_readsItem_11 (by decide) ?_
    refine a_icmp_eq (pc := 12) (tgt := 17) dX7_readsItem_12 (by decide) (fun c_12 => ?_) (fun c_12 => ?_)
    · refine a_iload_n (pc := 17) dX7_readsItem_17 rfl rfl ?_
      refine a_tableIn (pc := 18) (off := 132) (tgt := 150) dX7_readsItem_18 (by decide) (by decide) (by decide) (by decide) ?_
      refine a_aload_n (pc := 150) dX7_readsItem_150 rfl rfl ?_
      refine a_iload_n (pc := 151) dX7_readsItem_151 rfl rfl ?_
      refine a_iconst (pc := 152) (v := 0) dX7_readsItem_152 (by decide) ?_
      refine a_bipush (pc := 153) (v := 64) dX7_readsItem_153 (by decide) ?_
      refine a_callI3 (pc := 155) ck_X7_115 ⟨(Nat.le_of_ble_eq_true rfl), (Nat.le_of_ble_eq_true rfl)⟩ (by assumption) (by decide) (Nat.le_of_ble_eq_true rfl) dX7_readsItem_155 rfl (c_X7_readsRules0 hT hp) ?_
      rintro r u hr
      refine a_zret (pc := 158) rfl (bool_nar (by rcases hr with w | w; exact Or.inr w.1; exact Or.inl w.1)).1 dX7_readsItem_158 ?_
      exact hr
    · exact absurd c_12 (by decide)
  · exact absurd c_4 (by decide)

set_option maxHeartbeats 4000000 in
set_option maxRecDepth 100000 in
theorem c_X7_readsItem116 {ν : Mem} {tx : Nat → Nat} {l p : Nat} (hT : MT ν tx l) (hp : p ≤ l)  : Con shM mX7_readsItem [.ref 0, .int 116, .int (nI p), .int 0] ν (fun r u => (r = 1 ∧ (nO tx l p 1 10 ∧ lat tx l (nE tx l p) = 44 ∧ nO tx l (nE tx l p + 1) 1 7) ∧ u = nmM (up2 (up2 ν 4 2 (nI (nV tx l p))) 4 3 (nI (nV tx l (nE tx l p + 1)))) (nI (nV tx l (nE tx l p + 1))) (nI (nE tx l (nE tx l p + 1)))) ∨ (r = 0 ∧ ¬ (nO tx l p 1 10 ∧ lat tx l (nE tx l p) = 44 ∧ nO tx l (nE tx l p + 1) 1 7) ∧ FM ν u)) := by
  have m0 : shM[0]? = some (7, 18, [none, some 1, none, none, none, none, none, some 2, some 3, none, none, some 4, none, none, some 5, some 6, some 7, some 8]) := rfl
  have m1 : shM[1]? = some (100, 200, []) := rfl
  have m2 : shM[2]? = some (100, 1320, []) := rfl
  have m3 : shM[3]? = some (100, 1760, []) := rfl
  have m4 : shM[4]? = some (100, 4, []) := rfl
  have m5 : shM[5]? = some (100, 6, []) := rfl
  have m6 : shM[6]? = some (100, 6, []) := rfl
  have m7 : shM[7]? = some (100, 6, []) := rfl
  have m8 : shM[8]? = some (100, 6, []) := rfl
  refine Con.ofAW (al0 := [some (.ref 0), some (.int 116), some (.int (nI p)), some (.int 0), none, none]) (by decide) rfl (Nat.le_of_ble_eq_true rfl) rfl ?_
  refine a_iload_n (pc := 0) dX7_readsItem_0 rfl rfl ?_
  refine a_iload_n (pc := 1) dX7_readsItem_1 rfl rfl ?_
  refine a_bipush (pc := 2) (v := 110) dX7_readsItem_2 (by decide) ?_
  refine a_icmp_ne (pc := 4) (tgt := 11) dX7_readsItem_4 (by decide) (fun c_4 => ?_) (fun c_4 => ?_)
  · refine a_iconst (pc := 11) (v := 0) dX7_readsItem_11 (by decide) ?_
    refine a_icmp_eq (pc := 12) (tgt := 17) dX7_readsItem_12 (by decide) (fun c_12 => ?_) (fun c_12 => ?_)
    · refine a_iload_n (pc := 17) dX7_readsItem_17 rfl rfl ?_
      refine a_tableIn (pc := 18) (off := 141) (tgt := 159) dX7_readsItem_18 (by decide) (by decide) (by decide) (by decide) ?_
      refine a_aload_n (pc := 159) dX7_readsItem_159 rfl rfl ?_
      refine a_iload_n (pc := 160) dX7_readsItem_160 rfl rfl ?_
      refine a_iconst (pc := 161) (v := 2) dX7_readsItem_161 (by decide) ?_
      refine a_bipush (pc := 162) (v := 7) dX7_readsItem_162 (by decide) ?_
      refine a_callI3 (pc := 164) ck_X7_115 ⟨(Nat.le_of_ble_eq_true rfl), (Nat.le_of_ble_eq_true rfl)⟩ (by assumption) (by decide) (Nat.le_of_ble_eq_true rfl) dX7_readsItem_164 rfl (c_X7_readsRules2 hT hp) ?_
      rintro r u hr
      refine a_zret (pc := 167) rfl (bool_nar (by rcases hr with w | w; exact Or.inr w.1; exact Or.inl w.1)).1 dX7_readsItem_167 ?_
      exact hr
    · exact absurd c_12 (by decide)
  · exact absurd c_4 (by decide)

set_option maxHeartbeats 4000000 in
set_option maxRecDepth 100000 in
theorem c_X7_readsItem122 {ν : Mem} {tx : Nat → Nat} {l p : Nat} (hT : MT ν tx l) (hp : p ≤ l)  : Con shM mX7_readsItem [.ref 0, .int 122, .int (nI p), .int 0] ν (fun r u => (r = 1 ∧ nO tx l p 0 9999 ∧ u = up2 (nmM ν (nI (nV tx l p)) (nI (nE tx l p))) 2 1308 (nI (nV tx l p))) ∨ (r = 0 ∧ ¬ nO tx l p 0 9999 ∧ FM ν u)) := by
  have m0 : shM[0]? = some (7, 18, [none, some 1, none, none, none, none, none, some 2, some 3, none, none, some 4, none, none, some 5, some 6, some 7, some 8]) := rfl
  have m1 : shM[1]? = some (100, 200, []) := rfl
  have m2 : shM[2]? = some (100, 1320, []) := rfl
  have m3 : shM[3]? = some (100, 1760, []) := rfl
  have m4 : shM[4]? = some (100, 4, []) := rfl
  have m5 : shM[5]? = some (100, 6, []) := rfl
  have m6 : shM[6]? = some (100, 6, []) := rfl
  have m7 : shM[7]? = some (100, 6, []) := rfl
  have m8 : shM[8]? = some (100, 6, []) := rfl
  obtain ⟨hE, hTx, hTX⟩ := id hT
  have hl200 := hTX.1
  have hle1 := nE_le (tx := tx) hp
  have hv1 := nV_lt (tx := tx) (l := l) (p := p)
  have hv2 := nV_lt (tx := tx) (l := l) (p := (nE tx l p + 1))
  have hv3 := nV_lt (tx := tx) (l := l) (p := ((nE tx l (nE tx l p + 1)) + 1))
  refine Con.ofAW (al0 := [some (.ref 0), some (.int 122), some (.int (nI p)), some (.int 0), none, none]) (by decide) rfl (Nat.le_of_ble_eq_true rfl) rfl ?_
  refine a_iload_n (pc := 0) dX7_readsItem_0 rfl rfl ?_
  refine a_iload_n (pc := 1) dX7_readsItem_1 rfl rfl ?_
  refine a_bipush (pc := 2) (v := 110) dX7_readsItem_2 (by decide) ?_
  refine a_icmp_ne (pc := 4) (tgt := 11) dX7_readsItem_4 (by decide) (fun c_4 => ?_) (fun c_4 => ?_)
  · refine a_iconst (pc := 11) (v := 0) dX7_readsItem_11 (by decide) ?_
    refine a_icmp_eq (pc := 12) (tgt := 17) dX7_readsItem_12 (by decide) (fun c_12 => ?_) (fun c_12 => ?_)
    · refine a_iload_n (pc := 17) dX7_readsItem_17 rfl rfl ?_
      refine a_tableIn (pc := 18) (off := 150) (tgt := 168) dX7_readsItem_18 (by decide) (by decide) (by decide) (by decide) ?_
      refine a_aload_n (pc := 168) dX7_readsItem_168 rfl rfl ?_
      refine a_iload_n (pc := 169) dX7_readsItem_169 rfl rfl ?_
      refine a_iconst (pc := 170) (v := 0) dX7_readsItem_170 (by decide) ?_
      refine a_sipush (pc := 171) (v := 9999) dX7_readsItem_171 (by decide) ?_
      refine a_callI3 (pc := 174) ck_X7_98 ⟨(Nat.le_of_ble_eq_true rfl), (Nat.le_of_ble_eq_true rfl)⟩ (by assumption) (by decide) (Nat.le_of_ble_eq_true rfl) dX7_readsItem_174 rfl (c_X7_number (lo := 0) (hi := 9999) hT (by omega) (by omega) (by omega)) ?_
      rintro r1 u ⟨hr1, rfl⟩
      refine a_istore (pc := 177) (al' := [some (.ref _), some (.int _), some (.int _), some (.int _), none, some (.int _)]) dX7_readsItem_177 (by decide) rfl rfl ?_
      refine a_aload_n (pc := 179) dX7_readsItem_179 rfl rfl ?_
      refine a_getr (pc := 180) fl_X7_13 (by assumption) (by decide) (by rfl) dX7_readsItem_180 ?_
      refine a_sipush (pc := 183) (v := 1308) dX7_readsItem_183 (by decide) ?_
      refine a_aload_n (pc := 186) dX7_readsItem_186 rfl rfl ?_
      refine a_geti (pc := 187) fl_X7_84 (by assumption) (by decide) (by rfl) dX7_readsItem_187 ?_
      refine a_top (y := nI (nV tx l p)) nm_v ?_
      refine a_iast (pc := 190) (j := 1308) (by assumption) rfl (by omega) (by decide) dX7_readsItem_190 ?_
      refine a_iload (pc := 191) dX7_readsItem_191 rfl ?_
      refine a_zret (pc := 193) rfl (bool_nar (by rcases hr1 with w | w; exact Or.inr w.1; exact Or.inl w.1)).1 dX7_readsItem_193 ?_
      rcases hr1 with w | w
      · exact Or.inl ⟨w.1, w.2, rfl⟩
      · exact Or.inr ⟨w.1, w.2, FM.nm.tr (FM.u2 (by omega))⟩
    · exact absurd c_12 (by decide)
  · exact absurd c_4 (by decide)

