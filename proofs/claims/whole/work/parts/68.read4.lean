/-! the reference reads. nmM: its value and its end -/
def nmM (ν : Mem) (v e : Int32) : Mem := up2 (up2 ν 0 12 v) 0 13 e
theorem nm_v {ν : Mem} {v e : Int32} : nmM ν v e 0 12 = v := by unfold nmM; rw [up2_k (by omega), up2_at]
theorem nm_end {ν : Mem} {v e : Int32} : nmM ν v e 0 13 = e := by unfold nmM; rw [up2_at]
theorem nm_k {ν : Mem} {v e : Int32} {k : Nat} (h : k ≠ 12) (h2 : k ≠ 13) : nmM ν v e 0 k = ν 0 k := by unfold nmM; rw [up2_k h2, up2_k h]
theorem nm_x {ν : Mem} {v e : Int32} {x : Nat} (h : x ≠ 0) : nmM ν v e x = ν x := by unfold nmM; rw [up2_ne h, up2_ne h]
theorem nm_uv {ν : Mem} {v e w : Int32} : up2 (nmM ν v e) 0 12 w = nmM ν w e := by
  funext x k; unfold nmM; simp only [up2_ap]
  by_cases h : x = 0
  · subst h; by_cases h3 : k = 12 <;> simp [h3]
  · simp [h]
theorem nm_ue {ν : Mem} {v e w : Int32} : up2 (nmM ν v e) 0 13 w = nmM ν v w := by
  funext x k; unfold nmM; simp only [up2_ap]
  by_cases h : x = 0
  · subst h; by_cases h3 : k = 13 <;> simp [h3]
  · simp [h]
theorem nm_nm {ν : Mem} {v e w d : Int32} : nmM (nmM ν v e) w d = nmM ν w d := by
  rw [show nmM (nmM ν v e) w d = up2 (up2 (nmM ν v e) 0 12 w) 0 13 d from rfl, nm_uv, nm_ue]
theorem nm_up {ν : Mem} {v e w : Int32} {x k : Nat} (h : x ≠ 0) : up2 (nmM ν v e) x k w = nmM (up2 ν x k w) v e := by
  funext y j; unfold nmM; simp only [up2_ap]
  by_cases h0 : y = 0
  · subst h0; simp [Ne.symm h]
  · by_cases h1 : y = x
    · subst h1; simp [h]
    · simp [h0, h1]
def MT (ν : Mem) (tx : Nat → Nat) (l : Nat) : Prop := ν 0 0 = nI l ∧ (∀ k, k < l → ν 1 k = nI (tx k)) ∧ TX tx l
theorem MT.nm {ν : Mem} {tx : Nat → Nat} {l : Nat} {v e : Int32} (h : MT ν tx l) : MT (nmM ν v e) tx l :=
  ⟨by rw [nm_k (by omega) (by omega)]; exact h.1, fun k hk => by rw [nm_x (by omega)]; exact h.2.1 k hk, h.2.2⟩
theorem MT.up {ν : Mem} {tx : Nat → Nat} {l x k : Nat} {v : Int32} (h2 : x ≠ 0) (h3 : x ≠ 1) (h : MT ν tx l) : MT (up2 ν x k v) tx l :=
  ⟨by rw [up2_ne (Ne.symm h2)]; exact h.1, fun k hk => by rw [up2_ne (Ne.symm h3)]; exact h.2.1 k hk, h.2.2⟩
def nO (tx : Nat → Nat) (l p lo hi : Nat) : Prop := p < nE tx l p ∧ lo ≤ nV tx l p ∧ nV tx l p ≤ hi
set_option maxHeartbeats 4000000 in
set_option maxRecDepth 100000 in
theorem c_X7_letterAt {ν : Mem} {tx : Nat → Nat} {l q : Nat} (hT : MT ν tx l) (hq : q ≤ 1000) : Con shM mX7_letterAt [.ref 0, .int (nI q)] ν (fun r u => r = nI (lat tx l q) ∧ ν = u) := by
  have m0 : shM[0]? = some (7, 18, [none, some 1, none, none, none, none, none, some 2, some 3, none, none, some 4, none, none, some 5, some 6, some 7, some 8]) := rfl
  have m1 : shM[1]? = some (100, 200, []) := rfl
  have m2 : shM[2]? = some (100, 1320, []) := rfl
  have m3 : shM[3]? = some (100, 1760, []) := rfl
  have m4 : shM[4]? = some (100, 4, []) := rfl
  have m5 : shM[5]? = some (100, 6, []) := rfl
  have m6 : shM[6]? = some (100, 6, []) := rfl
  have m7 : shM[7]? = some (100, 6, []) := rfl
  have m8 : shM[8]? = some (100, 6, []) := rfl
  obtain ⟨hE, hTx, hTX⟩ := id hT
  have hl200 := hTX.1
  refine Con.ofAW (al0 := [some (.ref 0), some (.int (nI q))]) (by decide) rfl (Nat.le_of_ble_eq_true rfl) rfl ?_
  refine a_iload_n (pc := 0) dX7_letterAt_0 rfl rfl ?_
  refine a_aload_n (pc := 1) dX7_letterAt_1 rfl rfl ?_
  refine a_geti (pc := 2) fl_X7_81 (by assumption) (by decide) (by rfl) dX7_letterAt_2 ?_
  refine a_top (y := nI l) hE ?_
  refine a_icmp_ge (pc := 5) (tgt := 17) dX7_letterAt_5 (by decide) (fun c_5 => ?_) (fun c_5 => ?_)
  · have n_5 : l ≤ q := (nI_leI (a := l) (b := q) (by omega) (by omega)).mp c_5
    refine a_iconst (pc := 17) (v := 0) dX7_letterAt_17 (by decide) ?_
    refine a_iret (pc := 18) rfl dX7_letterAt_18 ?_
    refine ⟨?_, rfl⟩
    unfold lat
    first | rw [if_pos n_5]; exact hTx q n_5 | rw [if_neg (by omega)]; rfl
  · have n_5 : q < l := (nI_ltI (a := q) (b := l) (by omega) (by omega)).mp (Int32.not_le.mp c_5)
    refine a_aload_n (pc := 8) dX7_letterAt_8 rfl rfl ?_
    refine a_getr (pc := 9) fl_X7_7 (by assumption) (by decide) (by rfl) dX7_letterAt_9 ?_
    refine a_iload_n (pc := 12) dX7_letterAt_12 rfl rfl ?_
    refine a_iald (pc := 13) (j := q) (by assumption) rfl (by omega) (by decide) dX7_letterAt_13 ?_
    refine a_goto (pc := 14) (tgt := 18) dX7_letterAt_14 (by decide) ?_
    refine a_iret (pc := 18) rfl dX7_letterAt_18 ?_
    refine ⟨?_, rfl⟩
    unfold lat
    first | rw [if_pos n_5]; exact hTx q n_5 | rw [if_neg (by omega)]; rfl

set_option maxHeartbeats 4000000 in
set_option maxRecDepth 100000 in
theorem e_X7_number {ν : Mem} {tx : Nat → Nat} {l p lo hi : Nat} (hT : MT ν tx l) (hp : p ≤ 300) (hlo : lo ≤ 9999) (hhi : hi ≤ 9999) {v n : Nat} (hv : v ≤ 9999999) (hn : n ≤ 4)  : AW shM mX7_number 83 [some (.ref 0), some (.int (nI p)), some (.int (nI lo)), some (.int (nI hi))] [] (nmM ν (nI v) (nI (p + n))) (fun r u => (r = 1 ∧ (0 < n ∧ lo ≤ v ∧ v ≤ hi) ∨ r = 0 ∧ ¬ (0 < n ∧ lo ≤ v ∧ v ≤ hi)) ∧ u = nmM ν (nI v) (nI (p + n))) := by
  have m0 : shM[0]? = some (7, 18, [none, some 1, none, none, none, none, none, some 2, some 3, none, none, some 4, none, none, some 5, some 6, some 7, some 8]) := rfl
  have m1 : shM[1]? = some (100, 200, []) := rfl
  have m2 : shM[2]? = some (100, 1320, []) := rfl
  have m3 : shM[3]? = some (100, 1760, []) := rfl
  have m4 : shM[4]? = some (100, 4, []) := rfl
  have m5 : shM[5]? = some (100, 6, []) := rfl
  have m6 : shM[6]? = some (100, 6, []) := rfl
  have m7 : shM[7]? = some (100, 6, []) := rfl
  have m8 : shM[8]? = some (100, 6, []) := rfl
  obtain ⟨hE, hTx, hTX⟩ := id hT
  have hl200 := hTX.1
  refine a_aload_n (pc := 83) dX7_number_83 rfl rfl ?_
  refine a_geti (pc := 84) fl_X7_87 (by assumption) (by decide) (by rfl) dX7_number_84 ?_
  refine a_top (y := nI (p + n)) nm_end ?_
  refine a_iload_n (pc := 87) dX7_number_87 rfl rfl ?_
  refine a_icmp_le (pc := 88) (tgt := 107) dX7_number_88 (by decide) (fun c_88 => ?_) (fun c_88 => ?_)
  · have n_88 : (p + n) ≤ p := (nI_leI (a := (p + n)) (b := p) (by omega) (by omega)).mp c_88
    refine a_iconst (pc := 107) (v := 0) dX7_number_107 (by decide) ?_
    refine a_zret (pc := 108) rfl (by rfl) dX7_number_108 ?_
    refine ⟨?_, rfl⟩
    first
    | (have w := (hr_.resolve_right (fun w => c_100 w.1)).2; exact Or.inl ⟨rfl, by omega, hlo_.mp w.1, hhi_.mp w.2⟩)
    | (have w := (hr_.resolve_left (fun w => absurd (w.1.symm.trans c_100) (by decide))).2; exact Or.inr ⟨rfl, fun q => w.elim (hlo_.mpr q.2.1) (hhi_.mpr q.2.2)⟩)
    | exact Or.inr ⟨rfl, by omega⟩
  · have n_88 : p < (p + n) := (nI_ltI (a := p) (b := (p + n)) (by omega) (by omega)).mp (Int32.not_le.mp c_88)
    refine a_aload_n (pc := 91) dX7_number_91 rfl rfl ?_
    refine a_geti (pc := 92) fl_X7_84 (by assumption) (by decide) (by rfl) dX7_number_92 ?_
    refine a_top (y := nI v) nm_v ?_
    refine a_iload_n (pc := 95) dX7_number_95 rfl rfl ?_
    refine a_iload_n (pc := 96) dX7_number_96 rfl rfl ?_
    refine a_callS3 (pc := 97) cs_X7_94 ⟨(Nat.le_of_ble_eq_true rfl), (Nat.le_of_ble_eq_true rfl)⟩ (Nat.le_of_ble_eq_true rfl) dX7_number_97 rfl c_X7_isIn ?_
    rintro r_ u ⟨hr_, rfl⟩
    have hlo_ : ¬ nI v < nI lo ↔ lo ≤ v := by rw [nI_ltI (by omega) (by omega)]; omega
    have hhi_ : ¬ nI hi < nI v ↔ v ≤ hi := by rw [nI_ltI (by omega) (by omega)]; omega
    refine a_if_eq (pc := 100) (tgt := 107) dX7_number_100 (by decide) (fun c_100 => ?_) (fun c_100 => ?_)
    · refine a_iconst (pc := 107) (v := 0) dX7_number_107 (by decide) ?_
      refine a_zret (pc := 108) rfl (by rfl) dX7_number_108 ?_
      refine ⟨?_, rfl⟩
      first
      | (have w := (hr_.resolve_right (fun w => c_100 w.1)).2; exact Or.inl ⟨rfl, by omega, hlo_.mp w.1, hhi_.mp w.2⟩)
      | (have w := (hr_.resolve_left (fun w => absurd (w.1.symm.trans c_100) (by decide))).2; exact Or.inr ⟨rfl, fun q => w.elim (hlo_.mpr q.2.1) (hhi_.mpr q.2.2)⟩)
      | exact Or.inr ⟨rfl, by omega⟩
    · refine a_iconst (pc := 103) (v := 1) dX7_number_103 (by decide) ?_
      refine a_goto (pc := 104) (tgt := 108) dX7_number_104 (by decide) ?_
      refine a_zret (pc := 108) rfl (by rfl) dX7_number_108 ?_
      refine ⟨?_, rfl⟩
      first
      | (have w := (hr_.resolve_right (fun w => c_100 w.1)).2; exact Or.inl ⟨rfl, by omega, hlo_.mp w.1, hhi_.mp w.2⟩)
      | (have w := (hr_.resolve_left (fun w => absurd (w.1.symm.trans c_100) (by decide))).2; exact Or.inr ⟨rfl, fun q => w.elim (hlo_.mpr q.2.1) (hhi_.mpr q.2.2)⟩)
      | exact Or.inr ⟨rfl, by omega⟩

set_option maxHeartbeats 4000000 in
set_option maxRecDepth 100000 in
theorem l_X7_number {ν : Mem} {tx : Nat → Nat} {l p lo hi : Nat} (hT : MT ν tx l) (hp : p ≤ 300) (hlo : lo ≤ 9999) (hhi : hi ≤ 9999) : ∀ d n v : Nat, n + d = 4 → v < 10 ^ n → AW shM mX7_number 10 [some (.ref 0), some (.int (nI p)), some (.int (nI lo)), some (.int (nI hi))] [] (nmM ν (nI v) (nI (p + n))) (fun r u => (r = 1 ∧ (0 < n + ndg tx l d (p + n) ∧ lo ≤ nvl tx l d (p + n) v ∧ nvl tx l d (p + n) v ≤ hi) ∨ r = 0 ∧ ¬ (0 < n + ndg tx l d (p + n) ∧ lo ≤ nvl tx l d (p + n) v ∧ nvl tx l d (p + n) v ≤ hi)) ∧ u = nmM ν (nI (nvl tx l d (p + n) v)) (nI (p + (n + ndg tx l d (p + n))))) := by
  have m0 : shM[0]? = some (7, 18, [none, some 1, none, none, none, none, none, some 2, some 3, none, none, some 4, none, none, some 5, some 6, some 7, some 8]) := rfl
  have m1 : shM[1]? = some (100, 200, []) := rfl
  have m2 : shM[2]? = some (100, 1320, []) := rfl
  have m3 : shM[3]? = some (100, 1760, []) := rfl
  have m4 : shM[4]? = some (100, 4, []) := rfl
  have m5 : shM[5]? = some (100, 6, []) := rfl
  have m6 : shM[6]? = some (100, 6, []) := rfl
  have m7 : shM[7]? = some (100, 6, []) := rfl
  have m8 : shM[8]? = some (100, 6, []) := rfl
  obtain ⟨hE, hTx, hTX⟩ := id hT
  have hl200 := hTX.1
  intro d
  induction d with
  | zero =>
    intro n v hd hv
    obtain rfl : n = 4 := by omega
    refine a_aload_n (pc := 10) dX7_number_10 rfl rfl ?_
    refine a_geti (pc := 11) fl_X7_87 (by assumption) (by decide) (by rfl) dX7_number_11 ?_
    refine a_top (y := nI (p + 4)) nm_end ?_
    refine a_iload_n (pc := 14) dX7_number_14 rfl rfl ?_
    refine a_iconst (pc := 15) (v := 4) dX7_number_15 (by decide) ?_
    refine a_iaddN (pc := 16) (a := _) (b := 4) rfl rfl dX7_number_16 ?_
    refine a_icmp_ge (pc := 17) (tgt := 83) dX7_number_17 (by decide) (fun c_17 => ?_) (fun c_17 => ?_)
    · refine AW.mono (e_X7_number hT hp hlo hhi (v := v) (n := 4) (by omega) (by omega)) ?_
      rintro r u ⟨hr, rfl⟩
      exact ⟨hr, rfl⟩
    · exact absurd (nI_le (a := p + 4) (b := p + 4) (by omega) (by omega)) c_17
  | succ d ih =>
    intro n v hd hv
    have hv4 : v < 10000 := Nat.lt_of_lt_of_le hv (Nat.pow_le_pow_right (by omega) (show n ≤ 4 by omega))
    refine a_aload_n (pc := 10) dX7_number_10 rfl rfl ?_
    refine a_geti (pc := 11) fl_X7_87 (by assumption) (by decide) (by rfl) dX7_number_11 ?_
    refine a_top (y := nI (p + n)) nm_end ?_
    refine a_iload_n (pc := 14) dX7_number_14 rfl rfl ?_
    refine a_iconst (pc := 15) (v := 4) dX7_number_15 (by decide) ?_
    refine a_iaddN (pc := 16) (a := _) (b := 4) rfl rfl dX7_number_16 ?_
    refine a_icmp_ge (pc := 17) (tgt := 83) dX7_number_17 (by decide) (fun c_17 => ?_) (fun c_17 => ?_)
    · exact absurd c_17 (nI_ge (a := p + n) (b := p + 4) (by omega) (by omega))
    · refine a_aload_n (pc := 20) dX7_number_20 rfl rfl ?_
      refine a_aload_n (pc := 21) dX7_number_21 rfl rfl ?_
      refine a_geti (pc := 22) fl_X7_87 (by assumption) (by decide) (by rfl) dX7_number_22 ?_
      refine a_top (y := nI (p + n)) nm_end ?_
      refine a_callI1 (pc := 25) ck_X7_90 ⟨(Nat.le_of_ble_eq_true rfl), (Nat.le_of_ble_eq_true rfl)⟩ (by assumption) (by decide) (Nat.le_of_ble_eq_true rfl) dX7_number_25 rfl (c_X7_letterAt hT.nm (by omega)) ?_
      rintro r1 u ⟨rfl, rfl⟩
      have hl1 := lat_lt (p := p + n) hTX
      refine a_bipush (pc := 28) (v := 48) dX7_number_28 (by decide) ?_
      refine a_icmp_lt (pc := 30) (tgt := 83) dX7_number_30 (by decide) (fun c_30 => ?_) (fun c_30 => ?_)
      · have n_30 : (lat tx l (p + n)) < 48 := (nI_ltI (a := (lat tx l (p + n))) (b := 48) (by omega) (by omega)).mp c_30
        have hdg : ¬ dgP tx l (p + n) := fun q => by have w := lat_dg.mp q; omega
        refine AW.mono (e_X7_number hT hp hlo hhi (v := v) (n := n) (by omega) (by omega)) ?_
        rintro r u ⟨hr, rfl⟩
        unfold ndg nvl
        rw [if_neg hdg, if_neg hdg]
        exact ⟨hr, rfl⟩
      · have n_30 : 48 ≤ (lat tx l (p + n)) := (nI_leI (a := 48) (b := (lat tx l (p + n))) (by omega) (by omega)).mp (Int32.not_lt.mp c_30)
        refine a_aload_n (pc := 33) dX7_number_33 rfl rfl ?_
        refine a_aload_n (pc := 34) dX7_number_34 rfl rfl ?_
        refine a_geti (pc := 35) fl_X7_87 (by assumption) (by decide) (by rfl) dX7_number_35 ?_
        refine a_top (y := nI (p + n)) nm_end ?_
        refine a_callI1 (pc := 38) ck_X7_90 ⟨(Nat.le_of_ble_eq_true rfl), (Nat.le_of_ble_eq_true rfl)⟩ (by assumption) (by decide) (Nat.le_of_ble_eq_true rfl) dX7_number_38 rfl (c_X7_letterAt hT.nm (by omega)) ?_
        rintro r2 u ⟨rfl, rfl⟩
        have hl2 := lat_lt (p := p + n) hTX
        refine a_bipush (pc := 41) (v := 57) dX7_number_41 (by decide) ?_
        refine a_icmp_gt (pc := 43) (tgt := 83) dX7_number_43 (by decide) (fun c_43 => ?_) (fun c_43 => ?_)
        · have n_43 : 57 < (lat tx l (p + n)) := (nI_ltI (a := 57) (b := (lat tx l (p + n))) (by omega) (by omega)).mp c_43
          have hdg : ¬ dgP tx l (p + n) := fun q => by have w := lat_dg.mp q; omega
          refine AW.mono (e_X7_number hT hp hlo hhi (v := v) (n := n) (by omega) (by omega)) ?_
          rintro r u ⟨hr, rfl⟩
          unfold ndg nvl
          rw [if_neg hdg, if_neg hdg]
          exact ⟨hr, rfl⟩
        · have n_43 : (lat tx l (p + n)) ≤ 57 := (nI_leI (a := (lat tx l (p + n))) (b := 57) (by omega) (by omega)).mp (Int32.not_lt.mp c_43)
          have hdg : dgP tx l (p + n) := lat_dg.mpr ⟨n_30, n_43⟩
          have hq := hdg.1
          refine a_aload_n (pc := 46) dX7_number_46 rfl rfl ?_
          refine a_bipush (pc := 47) (v := 10) dX7_number_47 (by decide) ?_
          refine a_aload_n (pc := 49) dX7_number_49 rfl rfl ?_
          refine a_geti (pc := 50) fl_X7_84 (by assumption) (by decide) (by rfl) dX7_number_50 ?_
          refine a_top (y := nI v) nm_v ?_
          refine a_imulN (pc := 53) (a := 10) (b := _) rfl rfl dX7_number_53 ?_
          refine a_aload_n (pc := 54) dX7_number_54 rfl rfl ?_
          refine a_getr (pc := 55) fl_X7_7 (by assumption) (by decide) (by rfl) dX7_number_55 ?_
          refine a_aload_n (pc := 58) dX7_number_58 rfl rfl ?_
          refine a_geti (pc := 59) fl_X7_87 (by assumption) (by decide) (by rfl) dX7_number_59 ?_
          refine a_top (y := nI (p + n)) nm_end ?_
          refine a_iald (pc := 62) (j := (p + n)) (by assumption) rfl (by omega) (by decide) dX7_number_62 ?_
          refine a_top (y := nI (tx (p + n))) (by rw [nm_x (by omega)]; exact hTx _ (by omega)) ?_
          refine a_iaddN (pc := 63) (a := _) (b := _) rfl rfl dX7_number_63 ?_
          refine a_bipush (pc := 64) (v := 48) dX7_number_64 (by decide) ?_
          refine a_isubN (pc := 66) (a := _) (b := 48) rfl rfl (by have := hdg.2.1; omega) dX7_number_66 ?_
          refine a_puti (pc := 67) fp_X7_84 (by assumption) (by decide) (by rfl) dX7_number_67 ?_
          refine a_aload_n (pc := 70) dX7_number_70 rfl rfl ?_
          refine a_dup (pc := 71) dX7_number_71 rfl ?_
          refine a_geti (pc := 72) fl_X7_87 (by assumption) (by decide) (by rfl) dX7_number_72 ?_
          refine a_top (y := nI (p + n)) (by rw [nm_uv, nm_end]) ?_
          refine a_iconst (pc := 75) (v := 1) dX7_number_75 (by decide) ?_
          refine a_iaddN (pc := 76) (a := _) (b := 1) rfl rfl dX7_number_76 ?_
          refine a_puti (pc := 77) fp_X7_87 (by assumption) (by decide) (by rfl) dX7_number_77 ?_
          refine a_goto (pc := 80) (tgt := 10) dX7_number_80 (by decide) ?_
          rw [nm_uv, nm_ue]
          refine AW.mono (AW.cast (ih (n + 1) (10 * v + (tx (p + n) - 48)) (by omega) (by rw [Nat.pow_succ]; have := hdg.2.2; omega)) rfl rfl rfl (by rw [show 10 * v + tx (p + n) - 48 = 10 * v + (tx (p + n) - 48) by omega, Nat.add_assoc])) ?_
          rintro r u ⟨hr, rfl⟩
          rw [show ndg tx l (d + 1) (p + n) = ndg tx l d (p + (n + 1)) + 1 from if_pos hdg, show nvl tx l (d + 1) (p + n) v = nvl tx l d (p + (n + 1)) (10 * v + (tx (p + n) - 48)) from if_pos hdg, show n + (ndg tx l d (p + (n + 1)) + 1) = n + 1 + ndg tx l d (p + (n + 1)) by omega]
          exact ⟨hr, rfl⟩

set_option maxHeartbeats 4000000 in
set_option maxRecDepth 100000 in
theorem c_X7_number {ν : Mem} {tx : Nat → Nat} {l p lo hi : Nat} (hT : MT ν tx l) (hp : p ≤ 300) (hlo : lo ≤ 9999) (hhi : hi ≤ 9999)  : Con shM mX7_number [.ref 0, .int (nI p), .int (nI lo), .int (nI hi)] ν (fun r u => (r = 1 ∧ nO tx l p lo hi ∨ r = 0 ∧ ¬ nO tx l p lo hi) ∧ u = nmM ν (nI (nV tx l p)) (nI (nE tx l p))) := by
  have m0 : shM[0]? = some (7, 18, [none, some 1, none, none, none, none, none, some 2, some 3, none, none, some 4, none, none, some 5, some 6, some 7, some 8]) := rfl
  have m1 : shM[1]? = some (100, 200, []) := rfl
  have m2 : shM[2]? = some (100, 1320, []) := rfl
  have m3 : shM[3]? = some (100, 1760, []) := rfl
  have m4 : shM[4]? = some (100, 4, []) := rfl
  have m5 : shM[5]? = some (100, 6, []) := rfl
  have m6 : shM[6]? = some (100, 6, []) := rfl
  have m7 : shM[7]? = some (100, 6, []) := rfl
  have m8 : shM[8]? = some (100, 6, []) := rfl
  obtain ⟨hE, hTx, hTX⟩ := id hT
  have hl200 := hTX.1
  refine Con.ofAW (al0 := [some (.ref 0), some (.int (nI p)), some (.int (nI lo)), some (.int (nI hi))]) (by decide) rfl (Nat.le_of_ble_eq_true rfl) rfl ?_
  refine a_aload_n (pc := 0) dX7_number_0 rfl rfl ?_
  refine a_iconst (pc := 1) (v := 0) dX7_number_1 (by decide) ?_
  refine a_puti (pc := 2) fp_X7_84 (by assumption) (by decide) (by rfl) dX7_number_2 ?_
  refine a_aload_n (pc := 5) dX7_number_5 rfl rfl ?_
  refine a_iload_n (pc := 6) dX7_number_6 rfl rfl ?_
  refine a_puti (pc := 7) fp_X7_87 (by assumption) (by decide) (by rfl) dX7_number_7 ?_
  refine AW.mono (AW.cast (l_X7_number hT hp hlo hhi 4 0 0 rfl (by decide)) rfl rfl rfl rfl) ?_
  rintro r u ⟨hr, rfl⟩
  simp only [Nat.add_zero, Nat.zero_add] at hr ⊢
  exact ⟨hr.imp (fun q => ⟨q.1, by unfold nE; omega, q.2.2⟩) (fun q => ⟨q.1, fun w => q.2 ⟨by have := w.1; unfold nE at this; omega, w.2⟩⟩), rfl⟩

set_option maxHeartbeats 4000000 in
set_option maxRecDepth 100000 in
theorem c_X7_more {ν : Mem} {tx : Nat → Nat} {l e lo hi : Nat} {v : Int32} (hT : MT ν tx l) (he : e ≤ 299) (hlo : lo ≤ 9999) (hhi : hi ≤ 9999)  : Con shM mX7_more [.ref 0, .int (nI lo), .int (nI hi)] (nmM ν v (nI e)) (fun r u => (r = 1 ∧ (lat tx l e = 44 ∧ nO tx l (e + 1) lo hi) ∧ u = nmM ν (nI (nV tx l (e + 1))) (nI (nE tx l (e + 1)))) ∨ (r = 0 ∧ ¬ (lat tx l e = 44 ∧ nO tx l (e + 1) lo hi) ∧ ∃ a b, u = nmM ν a b)) := by
  have m0 : shM[0]? = some (7, 18, [none, some 1, none, none, none, none, none, some 2, some 3, none, none, some 4, none, none, some 5, some 6, some 7, some 8]) := rfl
  have m1 : shM[1]? = some (100, 200, []) := rfl
  have m2 : shM[2]? = some (100, 1320, []) := rfl
  have m3 : shM[3]? = some (100, 1760, []) := rfl
  have m4 : shM[4]? = some (100, 4, []) := rfl
  have m5 : shM[5]? = some (100, 6, []) := rfl
  have m6 : shM[6]? = some (100, 6, []) := rfl
  have m7 : shM[7]? = some (100, 6, []) := rfl
  have m8 : shM[8]? = some (100, 6, []) := rfl
  obtain ⟨hE, hTx, hTX⟩ := id hT
  have hl200 := hTX.1
  refine Con.ofAW (al0 := [some (.ref 0), some (.int (nI lo)), some (.int (nI hi))]) (by decide) rfl (Nat.le_of_ble_eq_true rfl) rfl ?_
  refine a_aload_n (pc := 0) dX7_more_0 rfl rfl ?_
  refine a_aload_n (pc := 1) dX7_more_1 rfl rfl ?_
  refine a_geti (pc := 2) fl_X7_87 (by assumption) (by decide) (by rfl) dX7_more_2 ?_
  refine a_top (y := nI e) nm_end ?_
  refine a_callI1 (pc := 5) ck_X7_90 ⟨(Nat.le_of_ble_eq_true rfl), (Nat.le_of_ble_eq_true rfl)⟩ (by assumption) (by decide) (Nat.le_of_ble_eq_true rfl) dX7_more_5 rfl (c_X7_letterAt hT.nm (by omega)) ?_
  rintro r1 u ⟨rfl, rfl⟩
  have hl1 := lat_lt (p := e) hTX
  refine a_bipush (pc := 8) (v := 44) dX7_more_8 (by decide) ?_
  refine a_icmp_ne (pc := 10) (tgt := 32) dX7_more_10 (by decide) (fun c_10 => ?_) (fun c_10 => ?_)
  · have n_10 : ¬ (lat tx l e) = 44 := fun e_ => c_10 ((nI_eq (a := (lat tx l e)) (b := 44) (by omega) (by omega)).mpr e_)
    refine a_iconst (pc := 32) (v := 0) dX7_more_32 (by decide) ?_
    refine a_zret (pc := 33) rfl (by rfl) dX7_more_33 ?_
    first
    | (have w := (hr2.resolve_right (fun w => c_25 w.1)).2; exact Or.inl ⟨rfl, ⟨n_10, w⟩, rfl⟩)
    | (have w := (hr2.resolve_left (fun w => absurd (w.1.symm.trans c_25) (by decide))).2; exact Or.inr ⟨rfl, fun q => w q.2, _, _, rfl⟩)
    | exact Or.inr ⟨rfl, fun q => n_10 q.1, _, _, rfl⟩
  · have n_10 : (lat tx l e) = 44 := (nI_eq (a := (lat tx l e)) (b := 44) (by omega) (by omega)).mp c_10
    refine a_aload_n (pc := 13) dX7_more_13 rfl rfl ?_
    refine a_aload_n (pc := 14) dX7_more_14 rfl rfl ?_
    refine a_geti (pc := 15) fl_X7_87 (by assumption) (by decide) (by rfl) dX7_more_15 ?_
    refine a_top (y := nI e) nm_end ?_
    refine a_iconst (pc := 18) (v := 1) dX7_more_18 (by decide) ?_
    refine a_iaddN (pc := 19) (a := _) (b := 1) rfl rfl dX7_more_19 ?_
    refine a_iload_n (pc := 20) dX7_more_20 rfl rfl ?_
    refine a_iload_n (pc := 21) dX7_more_21 rfl rfl ?_
    refine a_callI3 (pc := 22) ck_X7_98 ⟨(Nat.le_of_ble_eq_true rfl), (Nat.le_of_ble_eq_true rfl)⟩ (by assumption) (by decide) (Nat.le_of_ble_eq_true rfl) dX7_more_22 rfl (c_X7_number hT.nm (by omega) hlo hhi) ?_
    rintro r2 u ⟨hr2, rfl⟩
    rw [nm_nm]
    refine a_if_eq (pc := 25) (tgt := 32) dX7_more_25 (by decide) (fun c_25 => ?_) (fun c_25 => ?_)
    · refine a_iconst (pc := 32) (v := 0) dX7_more_32 (by decide) ?_
      refine a_zret (pc := 33) rfl (by rfl) dX7_more_33 ?_
      first
      | (have w := (hr2.resolve_right (fun w => c_25 w.1)).2; exact Or.inl ⟨rfl, ⟨n_10, w⟩, rfl⟩)
      | (have w := (hr2.resolve_left (fun w => absurd (w.1.symm.trans c_25) (by decide))).2; exact Or.inr ⟨rfl, fun q => w q.2, _, _, rfl⟩)
      | exact Or.inr ⟨rfl, fun q => n_10 q.1, _, _, rfl⟩
    · refine a_iconst (pc := 28) (v := 1) dX7_more_28 (by decide) ?_
      refine a_goto (pc := 29) (tgt := 33) dX7_more_29 (by decide) ?_
      refine a_zret (pc := 33) rfl (by rfl) dX7_more_33 ?_
      first
      | (have w := (hr2.resolve_right (fun w => c_25 w.1)).2; exact Or.inl ⟨rfl, ⟨n_10, w⟩, rfl⟩)
      | (have w := (hr2.resolve_left (fun w => absurd (w.1.symm.trans c_25) (by decide))).2; exact Or.inr ⟨rfl, fun q => w q.2, _, _, rfl⟩)
      | exact Or.inr ⟨rfl, fun q => n_10 q.1, _, _, rfl⟩

def hrsF (ν : Mem) (r i j : Nat) : Mem := up2 (up2 ν 2 (440 * r + 420 + i) (ν 2 (440 * r + 420 + i) ||| (1 <<< (nI j &&& 31)))) 2 (440 * r + 420 + j) (ν 2 (440 * r + 420 + j) ||| (1 <<< (nI i &&& 31)))
set_option maxHeartbeats 4000000 in
set_option maxRecDepth 100000 in
theorem c_X7_hears {ν : Mem} {r i j : Nat} (hr : r < 3) (hi : i < 6) (hj : j < 6) (hij : i ≠ j) : Con shM mX7_hears [.ref 0, .int (nI r), .int (nI i), .int (nI j)] ν (fun _ u => u = hrsF ν r i j) := by
  have m0 : shM[0]? = some (7, 18, [none, some 1, none, none, none, none, none, some 2, some 3, none, none, some 4, none, none, some 5, some 6, some 7, some 8]) := rfl
  have m1 : shM[1]? = some (100, 200, []) := rfl
  have m2 : shM[2]? = some (100, 1320, []) := rfl
  have m3 : shM[3]? = some (100, 1760, []) := rfl
  have m4 : shM[4]? = some (100, 4, []) := rfl
  have m5 : shM[5]? = some (100, 6, []) := rfl
  have m6 : shM[6]? = some (100, 6, []) := rfl
  have m7 : shM[7]? = some (100, 6, []) := rfl
  have m8 : shM[8]? = some (100, 6, []) := rfl
  refine Con.ofAW (al0 := [some (.ref 0), some (.int (nI r)), some (.int (nI i)), some (.int (nI j))]) (by decide) rfl (Nat.le_of_ble_eq_true rfl) rfl ?_
  refine a_aload_n (pc := 0) dX7_hears_0 rfl rfl ?_
  refine a_getr (pc := 1) fl_X7_13 (by assumption) (by decide) (by rfl) dX7_hears_1 ?_
  refine a_sipush (pc := 4) (v := 440) dX7_hears_4 (by decide) ?_
  refine a_iload_n (pc := 7) dX7_hears_7 rfl rfl ?_
  refine a_imulN (pc := 8) (a := 440) (b := _) rfl rfl dX7_hears_8 ?_
  refine a_sipush (pc := 9) (v := 420) dX7_hears_9 (by decide) ?_
  refine a_iaddN (pc := 12) (a := _) (b := 420) rfl rfl dX7_hears_12 ?_
  refine a_iload_n (pc := 13) dX7_hears_13 rfl rfl ?_
  refine a_iaddN (pc := 14) (a := _) (b := _) rfl rfl dX7_hears_14 ?_
  refine a_dup2 (pc := 15) dX7_hears_15 rfl rfl ?_
  refine a_iald (pc := 16)  (by assumption) rfl (by omega) (by decide) dX7_hears_16 ?_
  refine a_iconst (pc := 17) (v := 1) dX7_hears_17 (by decide) ?_
  refine a_iload_n (pc := 18) dX7_hears_18 rfl rfl ?_
  refine a_ishl (pc := 19) dX7_hears_19 ?_
  refine a_ior (pc := 20) dX7_hears_20 ?_
  refine a_iast (pc := 21)  (by assumption) rfl (by omega) (by decide) dX7_hears_21 ?_
  refine a_aload_n (pc := 22) dX7_hears_22 rfl rfl ?_
  refine a_getr (pc := 23) fl_X7_13 (by assumption) (by decide) (by rfl) dX7_hears_23 ?_
  refine a_sipush (pc := 26) (v := 440) dX7_hears_26 (by decide) ?_
  refine a_iload_n (pc := 29) dX7_hears_29 rfl rfl ?_
  refine a_imulN (pc := 30) (a := 440) (b := _) rfl rfl dX7_hears_30 ?_
  refine a_sipush (pc := 31) (v := 420) dX7_hears_31 (by decide) ?_
  refine a_iaddN (pc := 34) (a := _) (b := 420) rfl rfl dX7_hears_34 ?_
  refine a_iload_n (pc := 35) dX7_hears_35 rfl rfl ?_
  refine a_iaddN (pc := 36) (a := _) (b := _) rfl rfl dX7_hears_36 ?_
  refine a_dup2 (pc := 37) dX7_hears_37 rfl rfl ?_
  refine a_iald (pc := 38)  (by assumption) rfl (by omega) (by decide) dX7_hears_38 ?_
  refine a_iconst (pc := 39) (v := 1) dX7_hears_39 (by decide) ?_
  refine a_iload_n (pc := 40) dX7_hears_40 rfl rfl ?_
  refine a_ishl (pc := 41) dX7_hears_41 ?_
  refine a_ior (pc := 42) dX7_hears_42 ?_
  refine a_iast (pc := 43)  (by assumption) rfl (by omega) (by decide) dX7_hears_43 ?_
  refine a_vret (pc := 44) rfl dX7_hears_44 ?_
  unfold hrsF
  rw [up2_k (by omega)]

