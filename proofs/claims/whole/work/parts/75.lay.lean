/-! clear, as a function; fault, lay -/
def sclF (μ : Mem) (o : Nat) : Mem := putF (putF (up2 (up2 (up2 (up2 (up2 (up2 (up2 (up2 (up2 (up2 (up2 (up2 (up2 (up2 (up2 (up2 (up2 μ o 0 0) o 1 0) o 2 0) o 3 0) o 4 0) o 5 0) o 6 0) o 7 0) o 8 0) o 9 0) o 10 0) o 11 0) o 12 0) o 13 0) o 14 0) (o + 1) 0 0) (o + 4) 0 0) (o + 6) 0 0 0 0) (o + 7) 0 0 0 0
theorem sclF_SCL {μ : Mem} {o : Nat} : SCL (sclF μ o) o := by
  unfold sclF
  refine ⟨?_, ?_, ?_, ?_⟩
  · intro k hk
    rw [putF_ne (by omega), putF_ne (by omega), up2_ne (by omega), up2_ne (by omega)]
    rcases case15 hk with rfl | rfl | rfl | rfl | rfl | rfl | rfl | rfl | rfl | rfl | rfl | rfl | rfl | rfl | rfl <;> simp [up2_ap]
  · rw [putF_ne (by omega), putF_ne (by omega), up2_ne (by omega), up2_at]
  · rw [putF_ne (by omega), putF_ne (by omega), up2_at]
  · intro k hk
    rw [putF_ne (by omega)]
    rcases case4 hk with rfl | rfl | rfl | rfl <;> simp [putF, up2_ap]
theorem sclF_x {μ : Mem} {o x : Nat} (hx : x < o ∨ o + 7 < x) : sclF μ o x = μ x := by
  unfold sclF
  rw [putF_ne (by omega), putF_ne (by omega), up2_ne (by omega), up2_ne (by omega)]
  simp only [up2_ne (show x ≠ o by omega)]
set_option maxHeartbeats 4000000 in
set_option maxRecDepth 100000 in
theorem c_X5_clearE {μ : Mem} {o : Nat} (h : isSt o) : Con shC mX5_clear [.ref o] μ (fun _ u => u = sclF μ o) := by
  have ws := h
  have w0 : shC[o]? = _ := ws.1
  have w1 : shC[o + 1]? = some (0, 3, [none, some (o + 2), some (o + 3)]) := ws.2.1.1
  have w2 : shC[o + 2]? = some (100, 6, []) := ws.2.1.2.1
  have w3 : shC[o + 3]? = some (100, 6, []) := ws.2.1.2.2
  have w4 : shC[o + 4]? = some (1, 2, [none, some (o + 5)]) := ws.2.2.1.1
  have w5 : shC[o + 5]? = some (100, 24, []) := ws.2.2.1.2
  have w6 : shC[o + 6]? = some (4, 4, [none, none, none, none]) := ws.2.2.2.1
  have w7 : shC[o + 7]? = some (4, 4, [none, none, none, none]) := ws.2.2.2.2
  refine Con.ofAW (al0 := [some (.ref o)]) (by decide) rfl (Nat.le_of_ble_eq_true rfl) rfl ?_
  refine a_aload_n (pc := 0) dX5_clear_0 rfl rfl ?_
  refine a_iconst (pc := 1) (v := 0) dX5_clear_1 (by decide) ?_
  refine a_puti (pc := 2) fp_X5_35 (by assumption) (by decide) (by rfl) dX5_clear_2 ?_
  refine a_aload_n (pc := 5) dX5_clear_5 rfl rfl ?_
  refine a_iconst (pc := 6) (v := 0) dX5_clear_6 (by decide) ?_
  refine a_puti (pc := 7) fp_X5_39 (by assumption) (by decide) (by rfl) dX5_clear_7 ?_
  refine a_aload_n (pc := 10) dX5_clear_10 rfl rfl ?_
  refine a_iconst (pc := 11) (v := 0) dX5_clear_11 (by decide) ?_
  refine a_puti (pc := 12) fp_X5_42 (by assumption) (by decide) (by rfl) dX5_clear_12 ?_
  refine a_aload_n (pc := 15) dX5_clear_15 rfl rfl ?_
  refine a_iconst (pc := 16) (v := 0) dX5_clear_16 (by decide) ?_
  refine a_puti (pc := 17) fp_X5_45 (by assumption) (by decide) (by rfl) dX5_clear_17 ?_
  refine a_aload_n (pc := 20) dX5_clear_20 rfl rfl ?_
  refine a_iconst (pc := 21) (v := 0) dX5_clear_21 (by decide) ?_
  refine a_puti (pc := 22) fp_X5_48 (by assumption) (by decide) (by rfl) dX5_clear_22 ?_
  refine a_aload_n (pc := 25) dX5_clear_25 rfl rfl ?_
  refine a_iconst (pc := 26) (v := 0) dX5_clear_26 (by decide) ?_
  refine a_puti (pc := 27) fp_X5_51 (by assumption) (by decide) (by rfl) dX5_clear_27 ?_
  refine a_aload_n (pc := 30) dX5_clear_30 rfl rfl ?_
  refine a_iconst (pc := 31) (v := 0) dX5_clear_31 (by decide) ?_
  refine a_puti (pc := 32) fp_X5_54 (by assumption) (by decide) (by rfl) dX5_clear_32 ?_
  refine a_aload_n (pc := 35) dX5_clear_35 rfl rfl ?_
  refine a_iconst (pc := 36) (v := 0) dX5_clear_36 (by decide) ?_
  refine a_puti (pc := 37) fp_X5_57 (by assumption) (by decide) (by rfl) dX5_clear_37 ?_
  refine a_aload_n (pc := 40) dX5_clear_40 rfl rfl ?_
  refine a_iconst (pc := 41) (v := 0) dX5_clear_41 (by decide) ?_
  refine a_puti (pc := 42) fp_X5_60 (by assumption) (by decide) (by rfl) dX5_clear_42 ?_
  refine a_aload_n (pc := 45) dX5_clear_45 rfl rfl ?_
  refine a_iconst (pc := 46) (v := 0) dX5_clear_46 (by decide) ?_
  refine a_puti (pc := 47) fp_X5_63 (by assumption) (by decide) (by rfl) dX5_clear_47 ?_
  refine a_aload_n (pc := 50) dX5_clear_50 rfl rfl ?_
  refine a_iconst (pc := 51) (v := 0) dX5_clear_51 (by decide) ?_
  refine a_putx (pc := 52) fp_X5_66 (by rfl) (by rfl) (by assumption) (by decide) (by rfl) dX5_clear_52 ?_
  refine a_aload_n (pc := 55) dX5_clear_55 rfl rfl ?_
  refine a_iconst (pc := 56) (v := 0) dX5_clear_56 (by decide) ?_
  refine a_puti (pc := 57) fp_X5_70 (by assumption) (by decide) (by rfl) dX5_clear_57 ?_
  refine a_aload_n (pc := 60) dX5_clear_60 rfl rfl ?_
  refine a_iconst (pc := 61) (v := 0) dX5_clear_61 (by decide) ?_
  refine a_puti (pc := 62) fp_X5_73 (by assumption) (by decide) (by rfl) dX5_clear_62 ?_
  refine a_aload_n (pc := 65) dX5_clear_65 rfl rfl ?_
  refine a_iconst (pc := 66) (v := 0) dX5_clear_66 (by decide) ?_
  refine a_puti (pc := 67) fp_X5_76 (by assumption) (by decide) (by rfl) dX5_clear_67 ?_
  refine a_aload_n (pc := 70) dX5_clear_70 rfl rfl ?_
  refine a_iconst (pc := 71) (v := 0) dX5_clear_71 (by decide) ?_
  refine a_puti (pc := 72) fp_X5_79 (by assumption) (by decide) (by rfl) dX5_clear_72 ?_
  refine a_aload_n (pc := 75) dX5_clear_75 rfl rfl ?_
  refine a_getr (pc := 76) fl_X5_12 (by assumption) (by decide) (by rfl) dX5_clear_76 ?_
  refine a_iconst (pc := 79) (v := 0) dX5_clear_79 (by decide) ?_
  refine a_puti (pc := 80) fp_X5_82 (by assumption) (by decide) (by rfl) dX5_clear_80 ?_
  refine a_aload_n (pc := 83) dX5_clear_83 rfl rfl ?_
  refine a_getr (pc := 84) fl_X5_21 (by assumption) (by decide) (by rfl) dX5_clear_84 ?_
  refine a_iconst (pc := 87) (v := 0) dX5_clear_87 (by decide) ?_
  refine a_puti (pc := 88) fp_X5_85 (by assumption) (by decide) (by rfl) dX5_clear_88 ?_
  refine a_aload_n (pc := 91) dX5_clear_91 rfl rfl ?_
  refine a_getr (pc := 92) fl_X5_28 (by assumption) (by decide) (by rfl) dX5_clear_92 ?_
  refine a_callV0 (pc := 95) ck_X5_88 ⟨(Nat.le_of_ble_eq_true rfl), (Nat.le_of_ble_eq_true rfl)⟩ (by assumption) (by decide) (Nat.le_of_ble_eq_true rfl) dX5_clear_95 rfl (c_X4_clear (by assumption)) ?_
  rintro u rfl
  refine a_aload_n (pc := 98) dX5_clear_98 rfl rfl ?_
  refine a_getr (pc := 99) fl_X5_32 (by assumption) (by decide) (by rfl) dX5_clear_99 ?_
  refine a_callV0 (pc := 102) ck_X5_88 ⟨(Nat.le_of_ble_eq_true rfl), (Nat.le_of_ble_eq_true rfl)⟩ (by assumption) (by decide) (Nat.le_of_ble_eq_true rfl) dX5_clear_102 rfl (c_X4_clear (by assumption)) ?_
  rintro u rfl
  refine a_vret (pc := 105) rfl dX5_clear_105 ?_
  rfl

def nclB (μ : Mem) (n : Nat) : Mem := (up2 (up2 (up2 (up2 (up2 (up2 (up2 (up2 (up2 (up2 (up2 (up2 (up2 (up2 (up2 (up2 (up2 (up2 μ n 0 0) n 1 4) n 2 32) n 3 3) n 4 5) n 5 0) n 6 0) n 7 0) (n + 1) 0 0) (n + 1) 1 0) (n + 1) 2 0) (n + 1) 3 0) (n + 1) 4 0) (n + 1) 5 0) (n + 1) 6 0) (n + 1) 7 0) (n + 1) 8 0) (n + 1) 9 0)
def nclS (μ : Mem) (n : Nat) : Nat → Mem
  | 0 => nclB μ n
  | k + 1 => sclF (nclS μ n k) (stA n k)
theorem nclS_x {μ : Mem} {n x : Nat} : ∀ k, (x < n + 3 ∨ stA n k ≤ x) → nclS μ n k x = nclB μ n x
  | 0, _ => rfl
  | k + 1, h => by
    show sclF (nclS μ n k) (stA n k) x = _
    rw [sclF_x (by unfold stA at *; omega), nclS_x k (by unfold stA at *; omega)]
theorem nclS_st {μ : Mem} {n i : Nat} : ∀ k, i < k → SCL (nclS μ n k) (stA n i)
  | 0, h => by omega
  | k + 1, h => by
    by_cases e : i = k
    · subst e; exact sclF_SCL
    · exact (nclS_st k (by omega)).fr (fun x h1 h2 => sclF_x (by unfold stA at *; omega))
theorem nclS_6 {μ : Mem} {n : Nat} : NCL (nclS μ n 6) n ∧ ∀ x, (x < n ∨ n + 50 < x) → nclS μ n 6 x = μ x := by
  have e : ∀ k, nclS μ n 6 n k = nclB μ n n k := fun k => by rw [nclS_x 6 (by omega)]
  refine ⟨⟨?_, ?_, ?_, ?_, ?_, ?_, ?_, ?_, ?_, fun i hi => nclS_st 6 hi⟩, ?_⟩
  all_goals first | (rw [e]; simp [nclB, up2_ap]; done) | skip
  · intro k hk
    rw [nclS_x 6 (by omega)]
    have : k = 0 ∨ k = 1 ∨ k = 2 ∨ k = 3 ∨ k = 4 ∨ k = 5 ∨ k = 6 ∨ k = 7 ∨ k = 8 ∨ k = 9 := by omega
    rcases this with rfl | rfl | rfl | rfl | rfl | rfl | rfl | rfl | rfl | rfl <;> simp [nclB, up2_ap]
  · intro x hx
    rw [nclS_x 6 (by unfold stA; omega)]
    unfold nclB
    simp only [up2_ne (show x ≠ n by omega), up2_ne (show x ≠ n + 1 by omega)]
set_option maxHeartbeats 4000000 in
set_option maxRecDepth 100000 in
theorem l_X2_clearE {μ : Mem} {n : Nat} (hn : isNet n) {Q : Int32 → Mem → Prop} (hQ : Q 0 (nclS μ n 6)) : ∀ d i : Nat, i + d = 6 → AW shC mX2_clear 64 [some (.ref n), some (.int (nI i))] [] (nclS μ n i) Q := by
  obtain ⟨hn0, hn1, hn2, hnS⟩ := id hn
  intro d
  induction d with
  | zero =>
    intro i hd
    refine a_iload_n (pc := 64) dX2_clear_64 rfl rfl ?_
    refine a_bipush (pc := 65) (v := 6) dX2_clear_65 (by decide) ?_
    refine a_icmp_ge (pc := 67) (tgt := 85) dX2_clear_67 (by decide) (fun c_67 => ?_) (fun c_67 => ?_)
    · have e : i = 6 := by omega
      subst e
      exact a_vret (pc := 85) rfl dX2_clear_85 hQ
    · exact absurd (lt_of_not_ge' (a := i) (b := 6) (by omega) (by omega) c_67) (by omega)
  | succ d ih =>
    intro i hd
    have ws := hnS i (by omega)
    have w0 : shC[stA n i]? = _ := ws.1
    refine a_iload_n (pc := 64) dX2_clear_64 rfl rfl ?_
    refine a_bipush (pc := 65) (v := 6) dX2_clear_65 (by decide) ?_
    refine a_icmp_ge (pc := 67) (tgt := 85) dX2_clear_67 (by decide) (fun c_67 => ?_) (fun c_67 => ?_)
    · exact absurd (le_of_ge' (a := i) (b := 6) (by omega) (by omega) c_67) (by omega)
    · refine a_aload_n (pc := 70) dX2_clear_70 rfl rfl ?_
      refine a_getr (pc := 71) fl_X2_17 (by assumption) (by decide) (by rfl) dX2_clear_71 ?_
      refine a_iload_n (pc := 74) dX2_clear_74 rfl rfl ?_
      refine a_aald2 (pc := 75)  (by assumption) rfl (by omega) (by decide) (all_at (by omega)) dX2_clear_75 ?_
      refine a_callV0 (pc := 76) ck_X2_47 ⟨(Nat.le_of_ble_eq_true rfl), (Nat.le_of_ble_eq_true rfl)⟩ (by assumption) (by decide) (Nat.le_of_ble_eq_true rfl) dX2_clear_76 rfl (c_X5_clearE (hnS i (by omega))) ?_
      rintro u rfl
      refine a_iincN (pc := 79) (m := 1) (al' := [some (.ref _), some (.int _)]) dX2_clear_79 rfl (by decide) rfl rfl ?_
      refine a_goto (pc := 82) (tgt := 64) dX2_clear_82 (by decide) ?_
      exact ih (i + 1) (by omega)
set_option maxHeartbeats 4000000 in
set_option maxRecDepth 100000 in
theorem c_X2_clearE {μ : Mem} {n : Nat} (hn : isNet n) : Con shC mX2_clear [.ref n] μ (fun _ u => u = nclS μ n 6) := by
  obtain ⟨hn0, hn1, hn2, hnS⟩ := id hn
  refine Con.ofAW (al0 := [some (.ref n), none]) (by decide) rfl (Nat.le_of_ble_eq_true rfl) rfl ?_
  refine a_aload_n (pc := 0) dX2_clear_0 rfl rfl ?_
  refine a_iconst (pc := 1) (v := 0) dX2_clear_1 (by decide) ?_
  refine a_puti (pc := 2) fp_X2_22 (by assumption) (by decide) (by rfl) dX2_clear_2 ?_
  refine a_aload_n (pc := 5) dX2_clear_5 rfl rfl ?_
  refine a_iconst (pc := 6) (v := 4) dX2_clear_6 (by decide) ?_
  refine a_puti (pc := 7) fp_X2_26 (by assumption) (by decide) (by rfl) dX2_clear_7 ?_
  refine a_aload_n (pc := 10) dX2_clear_10 rfl rfl ?_
  refine a_bipush (pc := 11) (v := 32) dX2_clear_11 (by decide) ?_
  refine a_puti (pc := 13) fp_X2_29 (by assumption) (by decide) (by rfl) dX2_clear_13 ?_
  refine a_aload_n (pc := 16) dX2_clear_16 rfl rfl ?_
  refine a_iconst (pc := 17) (v := 3) dX2_clear_17 (by decide) ?_
  refine a_puti (pc := 18) fp_X2_32 (by assumption) (by decide) (by rfl) dX2_clear_18 ?_
  refine a_aload_n (pc := 21) dX2_clear_21 rfl rfl ?_
  refine a_iconst (pc := 22) (v := 5) dX2_clear_22 (by decide) ?_
  refine a_puti (pc := 23) fp_X2_35 (by assumption) (by decide) (by rfl) dX2_clear_23 ?_
  refine a_aload_n (pc := 26) dX2_clear_26 rfl rfl ?_
  refine a_iconst (pc := 27) (v := 0) dX2_clear_27 (by decide) ?_
  refine a_puti (pc := 28) fp_X2_38 (by assumption) (by decide) (by rfl) dX2_clear_28 ?_
  refine a_aload_n (pc := 31) dX2_clear_31 rfl rfl ?_
  refine a_iconst (pc := 32) (v := 0) dX2_clear_32 (by decide) ?_
  refine a_puti (pc := 33) fp_X2_41 (by assumption) (by decide) (by rfl) dX2_clear_33 ?_
  refine a_aload_n (pc := 36) dX2_clear_36 rfl rfl ?_
  refine a_iconst (pc := 37) (v := 0) dX2_clear_37 (by decide) ?_
  refine a_puti (pc := 38) fp_X2_44 (by assumption) (by decide) (by rfl) dX2_clear_38 ?_
  refine a_iconst (pc := 41) (v := 0) dX2_clear_41 (by decide) ?_
  refine a_istore_n (pc := 42) (al' := [some (.ref _), some (.int _)]) dX2_clear_42 rfl (by decide) rfl rfl ?_
  refine a_iload_n (pc := 43) dX2_clear_43 rfl rfl ?_
  refine a_bipush (pc := 44) (v := 9) dX2_clear_44 (by decide) ?_
  refine a_icmp_gt (pc := 46) (tgt := 62) dX2_clear_46 (by decide) (fun c_46 => ?_) (fun c_46 => ?_)
  · exact absurd c_46 (by decide)
  · refine a_aload_n (pc := 49) dX2_clear_49 rfl rfl ?_
    refine a_getr (pc := 50) fl_X2_9 (by assumption) (by decide) (by rfl) dX2_clear_50 ?_
    refine a_iload_n (pc := 53) dX2_clear_53 rfl rfl ?_
    refine a_iconst (pc := 54) (v := 0) dX2_clear_54 (by decide) ?_
    refine a_iast (pc := 55) (j := 0) (by assumption) rfl (by omega) (by decide) dX2_clear_55 ?_
    refine a_iinc (pc := 56) (v := 1) (al' := [some (.ref _), some (.int _)]) dX2_clear_56 rfl (by decide) (by decide) rfl rfl ?_
    refine a_goto (pc := 59) (tgt := 43) dX2_clear_59 (by decide) ?_
    refine a_iload_n (pc := 43) dX2_clear_43 rfl rfl ?_
    refine a_bipush (pc := 44) (v := 9) dX2_clear_44 (by decide) ?_
    refine a_icmp_gt (pc := 46) (tgt := 62) dX2_clear_46 (by decide) (fun c_46 => ?_) (fun c_46 => ?_)
    · exact absurd c_46 (by decide)
    · refine a_aload_n (pc := 49) dX2_clear_49 rfl rfl ?_
      refine a_getr (pc := 50) fl_X2_9 (by assumption) (by decide) (by rfl) dX2_clear_50 ?_
      refine a_iload_n (pc := 53) dX2_clear_53 rfl rfl ?_
      refine a_iconst (pc := 54) (v := 0) dX2_clear_54 (by decide) ?_
      refine a_iast (pc := 55) (j := 1) (by assumption) rfl (by omega) (by decide) dX2_clear_55 ?_
      refine a_iinc (pc := 56) (v := 2) (al' := [some (.ref _), some (.int _)]) dX2_clear_56 rfl (by decide) (by decide) rfl rfl ?_
      refine a_goto (pc := 59) (tgt := 43) dX2_clear_59 (by decide) ?_
      refine a_iload_n (pc := 43) dX2_clear_43 rfl rfl ?_
      refine a_bipush (pc := 44) (v := 9) dX2_clear_44 (by decide) ?_
      refine a_icmp_gt (pc := 46) (tgt := 62) dX2_clear_46 (by decide) (fun c_46 => ?_) (fun c_46 => ?_)
      · exact absurd c_46 (by decide)
      · refine a_aload_n (pc := 49) dX2_clear_49 rfl rfl ?_
        refine a_getr (pc := 50) fl_X2_9 (by assumption) (by decide) (by rfl) dX2_clear_50 ?_
        refine a_iload_n (pc := 53) dX2_clear_53 rfl rfl ?_
        refine a_iconst (pc := 54) (v := 0) dX2_clear_54 (by decide) ?_
        refine a_iast (pc := 55) (j := 2) (by assumption) rfl (by omega) (by decide) dX2_clear_55 ?_
        refine a_iinc (pc := 56) (v := 3) (al' := [some (.ref _), some (.int _)]) dX2_clear_56 rfl (by decide) (by decide) rfl rfl ?_
        refine a_goto (pc := 59) (tgt := 43) dX2_clear_59 (by decide) ?_
        refine a_iload_n (pc := 43) dX2_clear_43 rfl rfl ?_
        refine a_bipush (pc := 44) (v := 9) dX2_clear_44 (by decide) ?_
        refine a_icmp_gt (pc := 46) (tgt := 62) dX2_clear_46 (by decide) (fun c_46 => ?_) (fun c_46 => ?_)
        · exact absurd c_46 (by decide)
        · refine a_aload_n (pc := 49) dX2_clear_49 rfl rfl ?_
          refine a_getr (pc := 50) fl_X2_9 (by assumption) (by decide) (by rfl) dX2_clear_50 ?_
          refine a_iload_n (pc := 53) dX2_clear_53 rfl rfl ?_
          refine a_iconst (pc := 54) (v := 0) dX2_clear_54 (by decide) ?_
          refine a_iast (pc := 55) (j := 3) (by assumption) rfl (by omega) (by decide) dX2_clear_55 ?_
          refine a_iinc (pc := 56) (v := 4) (al' := [some (.ref _), some (.int _)]) dX2_clear_56 rfl (by decide) (by decide) rfl rfl ?_
          refine a_goto (pc := 59) (tgt := 43) dX2_clear_59 (by decide) ?_
          refine a_iload_n (pc := 43) dX2_clear_43 rfl rfl ?_
          refine a_bipush (pc := 44) (v := 9) dX2_clear_44 (by decide) ?_
          refine a_icmp_gt (pc := 46) (tgt := 62) dX2_clear_46 (by decide) (fun c_46 => ?_) (fun c_46 => ?_)
          · exact absurd c_46 (by decide)
          · refine a_aload_n (pc := 49) dX2_clear_49 rfl rfl ?_
            refine a_getr (pc := 50) fl_X2_9 (by assumption) (by decide) (by rfl) dX2_clear_50 ?_
            refine a_iload_n (pc := 53) dX2_clear_53 rfl rfl ?_
            refine a_iconst (pc := 54) (v := 0) dX2_clear_54 (by decide) ?_
            refine a_iast (pc := 55) (j := 4) (by assumption) rfl (by omega) (by decide) dX2_clear_55 ?_
            refine a_iinc (pc := 56) (v := 5) (al' := [some (.ref _), some (.int _)]) dX2_clear_56 rfl (by decide) (by decide) rfl rfl ?_
            refine a_goto (pc := 59) (tgt := 43) dX2_clear_59 (by decide) ?_
            refine a_iload_n (pc := 43) dX2_clear_43 rfl rfl ?_
            refine a_bipush (pc := 44) (v := 9) dX2_clear_44 (by decide) ?_
            refine a_icmp_gt (pc := 46) (tgt := 62) dX2_clear_46 (by decide) (fun c_46 => ?_) (fun c_46 => ?_)
            · exact absurd c_46 (by decide)
            · refine a_aload_n (pc := 49) dX2_clear_49 rfl rfl ?_
              refine a_getr (pc := 50) fl_X2_9 (by assumption) (by decide) (by rfl) dX2_clear_50 ?_
              refine a_iload_n (pc := 53) dX2_clear_53 rfl rfl ?_
              refine a_iconst (pc := 54) (v := 0) dX2_clear_54 (by decide) ?_
              refine a_iast (pc := 55) (j := 5) (by assumption) rfl (by omega) (by decide) dX2_clear_55 ?_
              refine a_iinc (pc := 56) (v := 6) (al' := [some (.ref _), some (.int _)]) dX2_clear_56 rfl (by decide) (by decide) rfl rfl ?_
              refine a_goto (pc := 59) (tgt := 43) dX2_clear_59 (by decide) ?_
              refine a_iload_n (pc := 43) dX2_clear_43 rfl rfl ?_
              refine a_bipush (pc := 44) (v := 9) dX2_clear_44 (by decide) ?_
              refine a_icmp_gt (pc := 46) (tgt := 62) dX2_clear_46 (by decide) (fun c_46 => ?_) (fun c_46 => ?_)
              · exact absurd c_46 (by decide)
              · refine a_aload_n (pc := 49) dX2_clear_49 rfl rfl ?_
                refine a_getr (pc := 50) fl_X2_9 (by assumption) (by decide) (by rfl) dX2_clear_50 ?_
                refine a_iload_n (pc := 53) dX2_clear_53 rfl rfl ?_
                refine a_iconst (pc := 54) (v := 0) dX2_clear_54 (by decide) ?_
                refine a_iast (pc := 55) (j := 6) (by assumption) rfl (by omega) (by decide) dX2_clear_55 ?_
                refine a_iinc (pc := 56) (v := 7) (al' := [some (.ref _), some (.int _)]) dX2_clear_56 rfl (by decide) (by decide) rfl rfl ?_
                refine a_goto (pc := 59) (tgt := 43) dX2_clear_59 (by decide) ?_
                refine a_iload_n (pc := 43) dX2_clear_43 rfl rfl ?_
                refine a_bipush (pc := 44) (v := 9) dX2_clear_44 (by decide) ?_
                refine a_icmp_gt (pc := 46) (tgt := 62) dX2_clear_46 (by decide) (fun c_46 => ?_) (fun c_46 => ?_)
                · exact absurd c_46 (by decide)
                · refine a_aload_n (pc := 49) dX2_clear_49 rfl rfl ?_
                  refine a_getr (pc := 50) fl_X2_9 (by assumption) (by decide) (by rfl) dX2_clear_50 ?_
                  refine a_iload_n (pc := 53) dX2_clear_53 rfl rfl ?_
                  refine a_iconst (pc := 54) (v := 0) dX2_clear_54 (by decide) ?_
                  refine a_iast (pc := 55) (j := 7) (by assumption) rfl (by omega) (by decide) dX2_clear_55 ?_
                  refine a_iinc (pc := 56) (v := 8) (al' := [some (.ref _), some (.int _)]) dX2_clear_56 rfl (by decide) (by decide) rfl rfl ?_
                  refine a_goto (pc := 59) (tgt := 43) dX2_clear_59 (by decide) ?_
                  refine a_iload_n (pc := 43) dX2_clear_43 rfl rfl ?_
                  refine a_bipush (pc := 44) (v := 9) dX2_clear_44 (by decide) ?_
                  refine a_icmp_gt (pc := 46) (tgt := 62) dX2_clear_46 (by decide) (fun c_46 => ?_) (fun c_46 => ?_)
                  · exact absurd c_46 (by decide)
                  · refine a_aload_n (pc := 49) dX2_clear_49 rfl rfl ?_
                    refine a_getr (pc := 50) fl_X2_9 (by assumption) (by decide) (by rfl) dX2_clear_50 ?_
                    refine a_iload_n (pc := 53) dX2_clear_53 rfl rfl ?_
                    refine a_iconst (pc := 54) (v := 0) dX2_clear_54 (by decide) ?_
                    refine a_iast (pc := 55) (j := 8) (by assumption) rfl (by omega) (by decide) dX2_clear_55 ?_
                    refine a_iinc (pc := 56) (v := 9) (al' := [some (.ref _), some (.int _)]) dX2_clear_56 rfl (by decide) (by decide) rfl rfl ?_
                    refine a_goto (pc := 59) (tgt := 43) dX2_clear_59 (by decide) ?_
                    refine a_iload_n (pc := 43) dX2_clear_43 rfl rfl ?_
                    refine a_bipush (pc := 44) (v := 9) dX2_clear_44 (by decide) ?_
                    refine a_icmp_gt (pc := 46) (tgt := 62) dX2_clear_46 (by decide) (fun c_46 => ?_) (fun c_46 => ?_)
                    · exact absurd c_46 (by decide)
                    · refine a_aload_n (pc := 49) dX2_clear_49 rfl rfl ?_
                      refine a_getr (pc := 50) fl_X2_9 (by assumption) (by decide) (by rfl) dX2_clear_50 ?_
                      refine a_iload_n (pc := 53) dX2_clear_53 rfl rfl ?_
                      refine a_iconst (pc := 54) (v := 0) dX2_clear_54 (by decide) ?_
                      refine a_iast (pc := 55) (j := 9) (by assumption) rfl (by omega) (by decide) dX2_clear_55 ?_
                      refine a_iinc (pc := 56) (v := 10) (al' := [some (.ref _), some (.int _)]) dX2_clear_56 rfl (by decide) (by decide) rfl rfl ?_
                      refine a_goto (pc := 59) (tgt := 43) dX2_clear_59 (by decide) ?_
                      refine a_iload_n (pc := 43) dX2_clear_43 rfl rfl ?_
                      refine a_bipush (pc := 44) (v := 9) dX2_clear_44 (by decide) ?_
                      refine a_icmp_gt (pc := 46) (tgt := 62) dX2_clear_46 (by decide) (fun c_46 => ?_) (fun c_46 => ?_)
                      · refine a_iconst (pc := 62) (v := 0) dX2_clear_62 (by decide) ?_
                        refine a_istore_n (pc := 63) (al' := [some (.ref _), some (.int _)]) dX2_clear_63 rfl (by decide) rfl rfl ?_
                        exact l_X2_clearE (μ := μ) hn rfl 6 0 (by omega)
                      · exact absurd c_46 (by decide)

def ffM (μ : Mem) (l : Nat) : Mem := rdM (up2 (nclS μ 53 6) 104 3 (nI l)) 0 (nclS μ 53 6 105)
set_option maxHeartbeats 4000000 in
set_option maxRecDepth 100000 in
theorem c_X3_firstFaultE {μ : Mem} {l : Nat} (hl : l ≤ 200) {Q : Int32 → Mem → Prop} (hU : AW shC mX3_firstFault 25 [some (.ref 104), some (.int (nI l)), some (.int 0), none] [] (ffM μ l) Q) : Con shC mX3_firstFault [.ref 104, .int (nI l)] μ (Q) := by
  have r0 : shC[104]? = some (3, 5, [some 1, some 53, some 105, none, none]) := rfl
  have r1 : shC[105]? = some (100, 3, []) := rfl
  have hn := net_53
  obtain ⟨hn0, hn1, hn2, hnS⟩ := id hn
  refine Con.ofAW (al0 := [some (.ref 104), some (.int (nI l)), none, none]) (by decide) rfl (Nat.le_of_ble_eq_true rfl) rfl ?_
  refine a_aload_n (pc := 0) dX3_firstFault_0 rfl rfl ?_
  refine a_getr (pc := 1) fl_X3_19 (by assumption) (by decide) (by rfl) dX3_firstFault_1 ?_
  refine a_callV0 (pc := 4) ck_X3_23 ⟨(Nat.le_of_ble_eq_true rfl), (Nat.le_of_ble_eq_true rfl)⟩ (by assumption) (by decide) (Nat.le_of_ble_eq_true rfl) dX3_firstFault_4 rfl (c_X2_clearE net_53) ?_
  rintro u rfl
  refine a_aload_n (pc := 7) dX3_firstFault_7 rfl rfl ?_
  refine a_iload_n (pc := 8) dX3_firstFault_8 rfl rfl ?_
  refine a_sipush (pc := 9) (v := 200) dX3_firstFault_9 (by decide) ?_
  refine a_mmin (pc := 12) nl_X3_28 nw_min1 nw_math nw_min3 (Nat.le_of_ble_eq_true rfl) (Nat.le_of_ble_eq_true rfl) dX3_firstFault_12 ?_
  refine a_top (y := nI l) (mmin200 hl) ?_
  refine a_puti (pc := 15) fp_X3_34 (by assumption) (by decide) (by rfl) dX3_firstFault_15 ?_
  refine a_aload_n (pc := 18) dX3_firstFault_18 rfl rfl ?_
  refine a_iconst (pc := 19) (v := 0) dX3_firstFault_19 (by decide) ?_
  refine a_puti (pc := 20) fp_X3_38 (by assumption) (by decide) (by rfl) dX3_firstFault_20 ?_
  refine a_iconst (pc := 23) (v := 0) dX3_firstFault_23 (by decide) ?_
  refine a_istore_n (pc := 24) (al' := [some (.ref _), some (.int _), some (.int _), none]) dX3_firstFault_24 rfl (by decide) rfl rfl ?_
  refine AW.cast hU rfl rfl rfl ?_
  rw [show (0 : Int32) = nI 0 from rfl, rd_in, up2_ne (by omega)]
  rfl

theorem ff_rel {μ ν : Mem} {tx : Nat → Nat} {l : Nat} (hX : TxR μ ν tx l) : RT (ffM μ l) tx l ∧ FC μ (ffM μ l) ∧ RDr (ffM μ l) (clrF ν) 0 := by
  obtain ⟨hC, hF⟩ := nclS_6 (μ := μ) (n := 53)
  have hC2 : NCL (up2 (nclS μ 53 6) 104 3 (nI l)) 53 := by
    obtain ⟨h0, h1, h2, h3, h4, h5, h6, h7, hk, hS⟩ := hC
    have e := up2_ne (μ := nclS μ 53 6) (o := 104) (k := 3) (v := nI l) (o' := 53) (by omega)
    have e1 := up2_ne (μ := nclS μ 53 6) (o := 104) (k := 3) (v := nI l) (o' := 53 + 1) (by omega)
    exact ⟨by rw [e]; exact h0, by rw [e]; exact h1, by rw [e]; exact h2, by rw [e]; exact h3, by rw [e]; exact h4, by rw [e]; exact h5, by rw [e]; exact h6, by rw [e]; exact h7, by rw [e1]; exact hk, fun i hi => (hS i hi).fr (fun x a b => up2_ne (by unfold stA at *; omega))⟩
  refine ⟨⟨?_, fun k hk => ?_, hX.2.2.2⟩, fun x hx => ?_, read_start (μ := μ) (l := l) hC2⟩
  · unfold ffM; rw [rd_e, up2_at]
  · unfold ffM; rw [rd_x (by omega) (by omega), up2_ne (by omega), hF 1 (by omega)]; exact hX.1 k hk
  · unfold ffM; rw [rd_x (by omega) (by omega), up2_ne (by omega), hF x (by omega)]
set_option maxHeartbeats 4000000 in
set_option maxRecDepth 100000 in
theorem c_X7_readsE {ν : Mem} {Q : Int32 → Mem → Prop} (hU : AW shM mX7_reads 6 [some (.ref 0), some (.int 0)] [] (clrF ν) Q) : Con shM mX7_reads [.ref 0] ν (Q) := by
  have m0 : shM[0]? = some (7, 18, [none, some 1, none, none, none, none, none, some 2, some 3, none, none, some 4, none, none, some 5, some 6, some 7, some 8]) := rfl
  have m1 : shM[1]? = some (100, 200, []) := rfl
  have m2 : shM[2]? = some (100, 1320, []) := rfl
  have m3 : shM[3]? = some (100, 1760, []) := rfl
  have m4 : shM[4]? = some (100, 4, []) := rfl
  have m5 : shM[5]? = some (100, 6, []) := rfl
  have m6 : shM[6]? = some (100, 6, []) := rfl
  have m7 : shM[7]? = some (100, 6, []) := rfl
  have m8 : shM[8]? = some (100, 6, []) := rfl
  refine Con.ofAW (al0 := [some (.ref 0), none]) (by decide) rfl (Nat.le_of_ble_eq_true rfl) rfl ?_
  refine a_aload_n (pc := 0) dX7_reads_0 rfl rfl ?_
  refine a_callV0 (pc := 1) ck_X7_34 ⟨(Nat.le_of_ble_eq_true rfl), (Nat.le_of_ble_eq_true rfl)⟩ (by assumption) (by decide) (Nat.le_of_ble_eq_true rfl) dX7_reads_1 rfl c_X7_clears ?_
  rintro u rfl
  refine a_iconst (pc := 4) (v := 0) dX7_reads_4 (by decide) ?_
  refine a_istore_n (pc := 5) (al' := [some (.ref _), some (.int _)]) dX7_reads_5 rfl (by decide) rfl rfl ?_
  exact hU

theorem text_rel {μ ν : Mem} {tx : Nat → Nat} {l : Nat} (hX : TxR μ ν tx l) : ∃ (a : Int32) (U V : Mem → Prop), Con shC mX3_firstFault [.ref 104, .int (nI l)] μ (fun r u => r = a ∧ U u) ∧ Con shM mX7_reads [.ref 0] ν (fun r v => r = a ∧ V v) ∧ (∀ u, U u → FC μ u ∧ BLn u 53) ∧ (∀ v, V v → FM ν v) ∧ (a = -4 → ∃ u v, U = (u = ·) ∧ V = (v = ·) ∧ RDr u v l) := by
  obtain ⟨h1, h2, h3⟩ := ff_rel hX
  obtain ⟨a, U, V, q1, q2, q3, q4, q5⟩ := read_rel (l + 1) 0 0 (ffM μ l) (clrF ν) (nI l) none (by omega) h1 (hX.2.fm FM.clr) (by unfold ffM; rw [rd_p]) (by omega) (by omega) h3
  exact ⟨a, U, V, c_X3_firstFaultE hX.2.2.2.1 q1, c_X7_readsE q2, fun u hu => ⟨h2.tr (q3 u hu).1, (q3 u hu).2⟩, fun v hv => FM.clr.tr (q4 v hv), q5⟩
theorem TXr.tx {μ ν : Mem} (h : TXr μ ν) : ∃ tx l, μ 0 1 = nI l ∧ l ≤ 200 ∧ TxR μ ν tx l := by
  obtain ⟨l, l1, l2, l3, l4⟩ := h
  refine ⟨fun k => (μ 1 k).toNatClampNeg, l, l2, l1, ⟨fun k hk => ?_, l3, fun k hk => ?_, l1, fun k hk => ?_⟩⟩
  all_goals obtain ⟨a, a1, a2, a3, a4⟩ := l4 k hk
  · show μ 1 k = nI (μ 1 k).toNatClampNeg
    rw [a3, nI_clamp (by omega)]
  · show ν 1 k = nI (μ 1 k).toNatClampNeg
    rw [a3, a4, nI_clamp (by omega)]
  · show 32 ≤ (μ 1 k).toNatClampNeg ∧ (μ 1 k).toNatClampNeg ≤ 126
    rw [a3, nI_clamp (by omega)]; omega
set_option maxHeartbeats 4000000 in
set_option maxRecDepth 100000 in
theorem c_X6_fault {μ : Mem} {l : Nat} {a : Int32} {U : Mem → Prop} (h1 : μ 0 1 = nI l) (hF : Con shC mX3_firstFault [.ref 104, .int (nI l)] μ (fun r u => r = a ∧ U u)) : Con shC mX6_fault [.ref 0] μ (fun r u => r = a ∧ U u) := by
  have z0 : shC[0]? = some (6, 8, [some 1, none, some 2, some 53, some 104, some 106, none, none]) := rfl
  have hn := net_2
  obtain ⟨hn0, hn1, hn2, hnS⟩ := id hn
  have r0 : shC[104]? = some (3, 5, [some 1, some 53, some 105, none, none]) := rfl
  refine Con.ofAW (al0 := [some (.ref 0)]) (by decide) rfl (Nat.le_of_ble_eq_true rfl) rfl ?_
  refine a_aload_n (pc := 0) dX6_fault_0 rfl rfl ?_
  refine a_getr (pc := 1) fl_X6_28 (by assumption) (by decide) (by rfl) dX6_fault_1 ?_
  refine a_aload_n (pc := 4) dX6_fault_4 rfl rfl ?_
  refine a_geti (pc := 5) fl_X6_48 (by assumption) (by decide) (by rfl) dX6_fault_5 ?_
  refine a_top (y := nI l) h1 ?_
  refine a_callI1 (pc := 8) ck_X6_56 ⟨(Nat.le_of_ble_eq_true rfl), (Nat.le_of_ble_eq_true rfl)⟩ (by assumption) (by decide) (Nat.le_of_ble_eq_true rfl) dX6_fault_8 rfl hF ?_
  rintro r u ⟨rfl, hu⟩
  refine a_iret (pc := 11) rfl dX6_fault_11 ?_
  exact ⟨rfl, hu⟩

set_option maxHeartbeats 4000000 in
set_option maxRecDepth 100000 in
theorem c_X7_fault {ν : Mem} {a : Int32} {V : Mem → Prop} (hF : Con shM mX7_reads [.ref 0] ν (fun r v => r = a ∧ V v)) : Con shM mX7_fault [.ref 0] ν (fun r u => r = a ∧ V u) := by
  have m0 : shM[0]? = some (7, 18, [none, some 1, none, none, none, none, none, some 2, some 3, none, none, some 4, none, none, some 5, some 6, some 7, some 8]) := rfl
  have m1 : shM[1]? = some (100, 200, []) := rfl
  have m2 : shM[2]? = some (100, 1320, []) := rfl
  have m3 : shM[3]? = some (100, 1760, []) := rfl
  have m4 : shM[4]? = some (100, 4, []) := rfl
  have m5 : shM[5]? = some (100, 6, []) := rfl
  have m6 : shM[6]? = some (100, 6, []) := rfl
  have m7 : shM[7]? = some (100, 6, []) := rfl
  have m8 : shM[8]? = some (100, 6, []) := rfl
  refine Con.ofAW (al0 := [some (.ref 0)]) (by decide) rfl (Nat.le_of_ble_eq_true rfl) rfl ?_
  refine a_aload_n (pc := 0) dX7_fault_0 rfl rfl ?_
  refine a_callI0 (pc := 1) ck_X7_122 ⟨(Nat.le_of_ble_eq_true rfl), (Nat.le_of_ble_eq_true rfl)⟩ (by assumption) (by decide) (Nat.le_of_ble_eq_true rfl) dX7_fault_1 rfl hF ?_
  rintro r u ⟨rfl, hu⟩
  refine a_iret (pc := 4) rfl dX7_fault_4 ?_
  exact ⟨rfl, hu⟩

theorem GR.rdd {μ u ν v : Mem} {D : Nat} (hG : GR μ ν D) (hu : FC μ u) (hb : BLn u 53) (hv : FM ν v) : GR u v D := by
  obtain ⟨N, t, hNR, ht, hP, ⟨l, l1, l2, l3, l4⟩, hB⟩ := hG
  have e0 := hu 0 (by omega)
  have v0 : ∀ k, k ≠ 10 → k ≠ 12 → k ≠ 13 → v 0 k = ν 0 k := hv.2.1
  exact ⟨N, t, hNR.eq (fun x h1 h2 => hu x (by omega)) (fun k _ _ => v0 k (by omega) (by omega) (by omega)) (fun j hj => by rw [Nat.zero_add]; exact hv.2.2 j (by omega)) (Nat.le_refl _), ht, hP.eq (fun x hx => hu x (by omega)) (by rw [e0]) (by rw [e0]) (fun k _ _ => v0 k (by omega) (by omega) (by omega)) (v0 9 (by omega) (by omega) (by omega)) (hv.1 3 (by omega) (by omega) (by omega)) (Nat.le_refl _), ⟨l, l1, by rw [e0]; exact l2, by rw [v0 0 (by omega) (by omega) (by omega)]; exact l3, by rw [hu 1 (by omega), hv.1 1 (by omega) (by omega) (by omega)]; exact l4⟩, hB.1.eq (fun x h1 h2 => hu x (by omega)), hb, fun j hj => (hB.2.2 j hj).eq (fun x h1 h2 => hu x (by unfold pst at h1; omega))⟩
theorem GR.text {μ ν : Mem} {D : Nat} (hG : GR μ ν D) : TXr μ ν := by
  obtain ⟨N, t, hNR, ht, hP, hT, hB⟩ := hG
  exact hT
theorem api_fault {μ ν : Mem} {D : Nat} (hG : GR μ ν D) : API mX6_fault mX7_fault [] μ ν D := by
  obtain ⟨tx, l, h1, -, hX⟩ := TXr.tx (GR.text hG)
  obtain ⟨a, U, V, q1, q2, q3, q4, q5⟩ := text_rel hX
  exact API.of ⟨a, U, V, c_X6_fault h1 q1, c_X7_fault q2, fun u v hu hv => hG.rdd (q3 u hu).1 (q3 u hu).2 (q4 v hv)⟩
set_option maxHeartbeats 4000000 in
set_option maxRecDepth 100000 in
theorem c_X6_takeTextN {μ : Mem} {l : Nat} {a : Int32} {U : Mem → Prop} (h1 : μ 0 1 = nI l) (hF : Con shC mX3_firstFault [.ref 104, .int (nI l)] μ (fun r u => r = a ∧ U u)) (ha : ¬ a = -4 ∨ ∀ u, U u → u 53 0 = 0) : Con shC mX6_takeText [.ref 0] μ (fun r u => r = 0 ∧ U u) := by
  have z0 : shC[0]? = some (6, 8, [some 1, none, some 2, some 53, some 104, some 106, none, none]) := rfl
  have hn := net_2
  obtain ⟨hn0, hn1, hn2, hnS⟩ := id hn
  have r0 : shC[104]? = some (3, 5, [some 1, some 53, some 105, none, none]) := rfl
  have m0 := net_53.1
  refine Con.ofAW (al0 := [some (.ref 0)]) (by decide) rfl (Nat.le_of_ble_eq_true rfl) rfl ?_
  refine a_aload_n (pc := 0) dX6_takeText_0 rfl rfl ?_
  refine a_getr (pc := 1) fl_X6_28 (by assumption) (by decide) (by rfl) dX6_takeText_1 ?_
  refine a_aload_n (pc := 4) dX6_takeText_4 rfl rfl ?_
  refine a_geti (pc := 5) fl_X6_48 (by assumption) (by decide) (by rfl) dX6_takeText_5 ?_
  refine a_top (y := nI l) h1 ?_
  refine a_callI1 (pc := 8) ck_X6_56 ⟨(Nat.le_of_ble_eq_true rfl), (Nat.le_of_ble_eq_true rfl)⟩ (by assumption) (by decide) (Nat.le_of_ble_eq_true rfl) dX6_takeText_8 rfl hF ?_
  rintro r u ⟨rfl, hu⟩
  refine a_bipush (pc := 11) (v := -4) dX6_takeText_11 (by decide) ?_
  refine a_icmp_ne (pc := 13) (tgt := 26) dX6_takeText_13 (by decide) (fun c_13 => ?_) (fun c_13 => ?_)
  · refine a_iconst (pc := 26) (v := 0) dX6_takeText_26 (by decide) ?_
    refine a_zret (pc := 27) rfl (by rfl) dX6_takeText_27 ?_
    exact ⟨rfl, hu⟩
  · refine a_aload_n (pc := 16) dX6_takeText_16 rfl rfl ?_
    refine a_getr (pc := 17) fl_X6_20 (by assumption) (by decide) (by rfl) dX6_takeText_17 ?_
    refine a_geti (pc := 20) fl_X6_60 (by assumption) (by decide) (by rfl) dX6_takeText_20 ?_
    refine a_if_ne (pc := 23) (tgt := 28) dX6_takeText_23 (by decide) (fun c_23 => ?_) (fun c_23 => ?_)
    · exact absurd (ha.resolve_left (fun q => q c_13) u hu) c_23
    · refine a_iconst (pc := 26) (v := 0) dX6_takeText_26 (by decide) ?_
      refine a_zret (pc := 27) rfl (by rfl) dX6_takeText_27 ?_
      exact ⟨rfl, hu⟩

set_option maxHeartbeats 4000000 in
set_option maxRecDepth 100000 in
theorem c_X6_takeTextY {μ : Mem} {l : Nat} {a : Int32} {U : Mem → Prop} (h1 : μ 0 1 = nI l) (hF : Con shC mX3_firstFault [.ref 104, .int (nI l)] μ (fun r u => r = a ∧ U u)) (ha : a = -4) {N : Nat} (hN1 : 1 ≤ N) (hN : N ≤ 6) (hU : ∀ u, U u → u 53 0 = nI N ∧ BLn (dfF u 53 N) 53) : Con shC mX6_takeText [.ref 0] μ (fun r u => r = 1 ∧ ∃ w y, U w ∧ NCP y 2 (dfF w 53 N) 53 ∧ (∀ x, (x < 2 ∨ 2 + 50 < x) → y x = dfF w 53 N x) ∧ u = up2 (up2 y 0 6 0) 0 7 0) := by
  have z0 : shC[0]? = some (6, 8, [some 1, none, some 2, some 53, some 104, some 106, none, none]) := rfl
  have hn := net_2
  obtain ⟨hn0, hn1, hn2, hnS⟩ := id hn
  have r0 : shC[104]? = some (3, 5, [some 1, some 53, some 105, none, none]) := rfl
  have m0 := net_53.1
  refine Con.ofAW (al0 := [some (.ref 0)]) (by decide) rfl (Nat.le_of_ble_eq_true rfl) rfl ?_
  refine a_aload_n (pc := 0) dX6_takeText_0 rfl rfl ?_
  refine a_getr (pc := 1) fl_X6_28 (by assumption) (by decide) (by rfl) dX6_takeText_1 ?_
  refine a_aload_n (pc := 4) dX6_takeText_4 rfl rfl ?_
  refine a_geti (pc := 5) fl_X6_48 (by assumption) (by decide) (by rfl) dX6_takeText_5 ?_
  refine a_top (y := nI l) h1 ?_
  refine a_callI1 (pc := 8) ck_X6_56 ⟨(Nat.le_of_ble_eq_true rfl), (Nat.le_of_ble_eq_true rfl)⟩ (by assumption) (by decide) (Nat.le_of_ble_eq_true rfl) dX6_takeText_8 rfl hF ?_
  rintro r u ⟨rfl, hu⟩
  refine a_bipush (pc := 11) (v := -4) dX6_takeText_11 (by decide) ?_
  refine a_icmp_ne (pc := 13) (tgt := 26) dX6_takeText_13 (by decide) (fun c_13 => ?_) (fun c_13 => ?_)
  · exact absurd ha c_13
  · refine a_aload_n (pc := 16) dX6_takeText_16 rfl rfl ?_
    refine a_getr (pc := 17) fl_X6_20 (by assumption) (by decide) (by rfl) dX6_takeText_17 ?_
    refine a_geti (pc := 20) fl_X6_60 (by assumption) (by decide) (by rfl) dX6_takeText_20 ?_
    refine a_top (y := nI N) (hU u hu).1 ?_
    refine a_if_ne (pc := 23) (tgt := 28) dX6_takeText_23 (by decide) (fun c_23 => ?_) (fun c_23 => ?_)
    · have n_23 : ¬ N = 0 := fun e_ => c_23 ((nI_eq (a := N) (b := 0) (by omega) (by omega)).mpr e_)
      refine a_aload_n (pc := 28) dX6_takeText_28 rfl rfl ?_
      refine a_getr (pc := 29) fl_X6_20 (by assumption) (by decide) (by rfl) dX6_takeText_29 ?_
      refine a_callV0 (pc := 32) ck_X6_215 ⟨(Nat.le_of_ble_eq_true rfl), (Nat.le_of_ble_eq_true rfl)⟩ (by assumption) (by decide) (Nat.le_of_ble_eq_true rfl) dX6_takeText_32 rfl (c_X2_drawFirstWaits net_53 (hU u hu).1 hN) ?_
      rintro w rfl
      refine a_aload_n (pc := 35) dX6_takeText_35 rfl rfl ?_
      refine a_getr (pc := 36) fl_X6_16 (by assumption) (by decide) (by rfl) dX6_takeText_36 ?_
      refine a_aload_n (pc := 39) dX6_takeText_39 rfl rfl ?_
      refine a_getr (pc := 40) fl_X6_20 (by assumption) (by decide) (by rfl) dX6_takeText_40 ?_
      refine a_callV1 (pc := 43) ck_X6_125 ⟨(Nat.le_of_ble_eq_true rfl), (Nat.le_of_ble_eq_true rfl)⟩ (by assumption) (by decide) (Nat.le_of_ble_eq_true rfl) dX6_takeText_43 rfl (c_X2_copyFrom net_2 net_53 (Or.inr (by omega)) (hU u hu).2) ?_
      rintro y ⟨hC, hY⟩
      refine a_aload_n (pc := 46) dX6_takeText_46 rfl rfl ?_
      refine a_iconst (pc := 47) (v := 0) dX6_takeText_47 (by decide) ?_
      refine a_puti (pc := 48) fp_X6_119 (by assumption) (by decide) (by rfl) dX6_takeText_48 ?_
      refine a_aload_n (pc := 51) dX6_takeText_51 rfl rfl ?_
      refine a_iconst (pc := 52) (v := 0) dX6_takeText_52 (by decide) ?_
      refine a_puti (pc := 53) fp_X6_122 (by assumption) (by decide) (by rfl) dX6_takeText_53 ?_
      refine a_iconst (pc := 56) (v := 1) dX6_takeText_56 (by decide) ?_
      refine a_zret (pc := 57) rfl (by rfl) dX6_takeText_57 ?_
      exact ⟨rfl, u, y, hu, hC, hY, rfl⟩
    · have n_23 : N = 0 := (nI_eq (a := N) (b := 0) (by omega) (by omega)).mp c_23
      exact absurd n_23 (by omega)

set_option maxHeartbeats 4000000 in
set_option maxRecDepth 100000 in
theorem c_X6_layN {μ : Mem} {U : Mem → Prop} (hT : Con shC mX6_takeText [.ref 0] μ (fun r u => r = 0 ∧ U u)) : Con shC mX6_lay [.ref 0] μ (fun r u => r = -2 ∧ U u) := by
  have z0 : shC[0]? = some (6, 8, [some 1, none, some 2, some 53, some 104, some 106, none, none]) := rfl
  have hn := net_2
  obtain ⟨hn0, hn1, hn2, hnS⟩ := id hn
  have r0 : shC[104]? = some (3, 5, [some 1, some 53, some 105, none, none]) := rfl
  refine Con.ofAW (al0 := [some (.ref 0)]) (by decide) rfl (Nat.le_of_ble_eq_true rfl) rfl ?_
  refine a_aload_n (pc := 0) dX6_lay_0 rfl rfl ?_
  refine a_callI0 (pc := 1) ck_X6_52 ⟨(Nat.le_of_ble_eq_true rfl), (Nat.le_of_ble_eq_true rfl)⟩ (by assumption) (by decide) (Nat.le_of_ble_eq_true rfl) dX6_lay_1 rfl hT ?_
  rintro r u ⟨rfl, hu⟩
  refine a_if_eq (pc := 4) (tgt := 17) dX6_lay_4 (by decide) (fun c_4 => ?_) (fun c_4 => ?_)
  · refine a_bipush (pc := 17) (v := -2) dX6_lay_17 (by decide) ?_
    refine a_iret (pc := 19) rfl dX6_lay_19 ?_
    exact ⟨rfl, hu⟩
  · exact absurd c_4 (by decide)

set_option maxHeartbeats 4000000 in
set_option maxRecDepth 100000 in
theorem c_X6_layY {μ : Mem} {U : Mem → Prop} {N : Nat} (hT : Con shC mX6_takeText [.ref 0] μ (fun r u => r = 1 ∧ U u)) (hU : ∀ u, U u → u 2 0 = nI N) : Con shC mX6_lay [.ref 0] μ (fun r u => r = nI N ∧ U u) := by
  have z0 : shC[0]? = some (6, 8, [some 1, none, some 2, some 53, some 104, some 106, none, none]) := rfl
  have hn := net_2
  obtain ⟨hn0, hn1, hn2, hnS⟩ := id hn
  have r0 : shC[104]? = some (3, 5, [some 1, some 53, some 105, none, none]) := rfl
  refine Con.ofAW (al0 := [some (.ref 0)]) (by decide) rfl (Nat.le_of_ble_eq_true rfl) rfl ?_
  refine a_aload_n (pc := 0) dX6_lay_0 rfl rfl ?_
  refine a_callI0 (pc := 1) ck_X6_52 ⟨(Nat.le_of_ble_eq_true rfl), (Nat.le_of_ble_eq_true rfl)⟩ (by assumption) (by decide) (Nat.le_of_ble_eq_true rfl) dX6_lay_1 rfl hT ?_
  rintro r u ⟨rfl, hu⟩
  refine a_if_eq (pc := 4) (tgt := 17) dX6_lay_4 (by decide) (fun c_4 => ?_) (fun c_4 => ?_)
  · exact absurd c_4 (by decide)
  · refine a_aload_n (pc := 7) dX6_lay_7 rfl rfl ?_
    refine a_getr (pc := 8) fl_X6_16 (by assumption) (by decide) (by rfl) dX6_lay_8 ?_
    refine a_geti (pc := 11) fl_X6_60 (by assumption) (by decide) (by rfl) dX6_lay_11 ?_
    refine a_goto (pc := 14) (tgt := 19) dX6_lay_14 (by decide) ?_
    refine a_iret (pc := 19) rfl dX6_lay_19 ?_
    exact ⟨hU u hu, hu⟩

set_option maxHeartbeats 4000000 in
set_option maxRecDepth 100000 in
theorem c_X7_layN {ν : Mem} {a : Int32} {V : Mem → Prop} (hF : Con shM mX7_reads [.ref 0] ν (fun r v => r = a ∧ V v)) (ha : ¬ a = -4 ∨ ∀ v, V v → v 0 10 = 0) : Con shM mX7_lay [.ref 0] ν (fun r u => r = -2 ∧ V u) := by
  have m0 : shM[0]? = some (7, 18, [none, some 1, none, none, none, none, none, some 2, some 3, none, none, some 4, none, none, some 5, some 6, some 7, some 8]) := rfl
  have m1 : shM[1]? = some (100, 200, []) := rfl
  have m2 : shM[2]? = some (100, 1320, []) := rfl
  have m3 : shM[3]? = some (100, 1760, []) := rfl
  have m4 : shM[4]? = some (100, 4, []) := rfl
  have m5 : shM[5]? = some (100, 6, []) := rfl
  have m6 : shM[6]? = some (100, 6, []) := rfl
  have m7 : shM[7]? = some (100, 6, []) := rfl
  have m8 : shM[8]? = some (100, 6, []) := rfl
  refine Con.ofAW (al0 := [some (.ref 0)]) (by decide) rfl (Nat.le_of_ble_eq_true rfl) rfl ?_
  refine a_aload_n (pc := 0) dX7_lay_0 rfl rfl ?_
  refine a_callI0 (pc := 1) ck_X7_122 ⟨(Nat.le_of_ble_eq_true rfl), (Nat.le_of_ble_eq_true rfl)⟩ (by assumption) (by decide) (Nat.le_of_ble_eq_true rfl) dX7_lay_1 rfl hF ?_
  rintro r u ⟨rfl, hu⟩
  refine a_bipush (pc := 4) (v := -4) dX7_lay_4 (by decide) ?_
  refine a_icmp_ne (pc := 6) (tgt := 16) dX7_lay_6 (by decide) (fun c_6 => ?_) (fun c_6 => ?_)
  · refine a_bipush (pc := 16) (v := -2) dX7_lay_16 (by decide) ?_
    refine a_iret (pc := 18) rfl dX7_lay_18 ?_
    exact ⟨rfl, hu⟩
  · refine a_aload_n (pc := 9) dX7_lay_9 rfl rfl ?_
    refine a_geti (pc := 10) fl_X7_37 (by assumption) (by decide) (by rfl) dX7_lay_10 ?_
    refine a_if_ne (pc := 13) (tgt := 19) dX7_lay_13 (by decide) (fun c_13 => ?_) (fun c_13 => ?_)
    · exact absurd (ha.resolve_left (fun q => q c_6) u hu) c_13
    · refine a_bipush (pc := 16) (v := -2) dX7_lay_16 (by decide) ?_
      refine a_iret (pc := 18) rfl dX7_lay_18 ?_
      exact ⟨rfl, hu⟩

set_option maxHeartbeats 4000000 in
set_option maxRecDepth 100000 in
theorem c_X7_layY {ν : Mem} {a : Int32} {V : Mem → Prop} (hF : Con shM mX7_reads [.ref 0] ν (fun r v => r = a ∧ V v)) (ha : a = -4) {N : Nat} (hN1 : 1 ≤ N) (hN : N ≤ 6) (hV : ∀ v, V v → v 0 10 = nI N ∧ ¬ v 4 0 = 0) : Con shM mX7_lay [.ref 0] ν (fun r u => r = nI N ∧ ∃ v, V v ∧ u = tkF v N) := by
  have m0 : shM[0]? = some (7, 18, [none, some 1, none, none, none, none, none, some 2, some 3, none, none, some 4, none, none, some 5, some 6, some 7, some 8]) := rfl
  have m1 : shM[1]? = some (100, 200, []) := rfl
  have m2 : shM[2]? = some (100, 1320, []) := rfl
  have m3 : shM[3]? = some (100, 1760, []) := rfl
  have m4 : shM[4]? = some (100, 4, []) := rfl
  have m5 : shM[5]? = some (100, 6, []) := rfl
  have m6 : shM[6]? = some (100, 6, []) := rfl
  have m7 : shM[7]? = some (100, 6, []) := rfl
  have m8 : shM[8]? = some (100, 6, []) := rfl
  refine Con.ofAW (al0 := [some (.ref 0)]) (by decide) rfl (Nat.le_of_ble_eq_true rfl) rfl ?_
  refine a_aload_n (pc := 0) dX7_lay_0 rfl rfl ?_
  refine a_callI0 (pc := 1) ck_X7_122 ⟨(Nat.le_of_ble_eq_true rfl), (Nat.le_of_ble_eq_true rfl)⟩ (by assumption) (by decide) (Nat.le_of_ble_eq_true rfl) dX7_lay_1 rfl hF ?_
  rintro r u ⟨rfl, hu⟩
  refine a_bipush (pc := 4) (v := -4) dX7_lay_4 (by decide) ?_
  refine a_icmp_ne (pc := 6) (tgt := 16) dX7_lay_6 (by decide) (fun c_6 => ?_) (fun c_6 => ?_)
  · exact absurd ha c_6
  · refine a_aload_n (pc := 9) dX7_lay_9 rfl rfl ?_
    refine a_geti (pc := 10) fl_X7_37 (by assumption) (by decide) (by rfl) dX7_lay_10 ?_
    refine a_top (y := nI N) (hV u hu).1 ?_
    refine a_if_ne (pc := 13) (tgt := 19) dX7_lay_13 (by decide) (fun c_13 => ?_) (fun c_13 => ?_)
    · have n_13 : ¬ N = 0 := fun e_ => c_13 ((nI_eq (a := N) (b := 0) (by omega) (by omega)).mpr e_)
      refine a_aload_n (pc := 19) dX7_lay_19 rfl rfl ?_
      refine a_callV0 (pc := 20) ck_X7_49 ⟨(Nat.le_of_ble_eq_true rfl), (Nat.le_of_ble_eq_true rfl)⟩ (by assumption) (by decide) (Nat.le_of_ble_eq_true rfl) dX7_lay_20 rfl (c_X7_takes (hV u hu).1 hN (hV u hu).2) ?_
      rintro w rfl
      refine a_aload_n (pc := 23) dX7_lay_23 rfl rfl ?_
      refine a_geti (pc := 24) fl_X7_56 (by assumption) (by decide) (by rfl) dX7_lay_24 ?_
      refine a_iret (pc := 27) rfl dX7_lay_27 ?_
      exact ⟨by unfold tkF; rw [upA_ne (by omega)]; simp [up2_ap], u, hu, rfl⟩
    · have n_13 : N = 0 := (nI_eq (a := N) (b := 0) (by omega) (by omega)).mp c_13
      exact absurd n_13 (by omega)

theorem FC.tx {μ u ν v : Mem} (hT : TXr μ ν) (hu : FC μ u) (hv : FM ν v) : TXr u v := by
  obtain ⟨l, l1, l2, l3, l4⟩ := hT
  exact ⟨l, l1, by rw [hu 0 (by omega)]; exact l2, by rw [hv.2.1 0 (by omega) (by omega) (by omega)]; exact l3, by rw [hu 1 (by omega), hv.1 1 (by omega) (by omega) (by omega)]; exact l4⟩
/-- the world behind a text that was taken -/
theorem GR.take {μ u ν v y : Mem} {N l D : Nat} {hm sz : Nat → Nat} (hT : TXr μ ν) (hu : FC μ u) (hv : FM ν v) (hBp : ∀ j, j < 4 → BLn μ (pst j)) (hN : RN u v N l) (hU : RU u v) (hZ : RZ u v) (hK : RK u v) (hH : RH u v hm) (hS : RS u v sz) (h2 : 2 ≤ N) (hC : NCP y 2 (dfF u 53 N) 53) (hy : ∀ x, (x < 2 ∨ 2 + 50 < x) → y x = dfF u 53 N x) : GR (up2 (up2 y 0 6 0) 0 7 0) (tkF v N) (D + 1) := by
  obtain ⟨hNB, hBL⟩ := take_rel hN hU hZ hK hH hS h2
  have hx : ∀ x, x ≠ 0 → up2 (up2 y 0 6 0) 0 7 0 x = y x := fun x h => by rw [up2_ne h, up2_ne h]
  have h0 : ∀ k, k ≠ 6 → k ≠ 7 → up2 (up2 y 0 6 0) 0 7 0 0 k = y 0 k := fun k a b => by rw [up2_k b, up2_k a]
  have hd : ∀ x, (x < 53 ∨ 103 < x) → dfF u 53 N x = u x := fun x hx => dfF_x N (fun j hj => by have := hN.2.2.1; unfold stA; omega)
  have hCn : NCP (up2 (up2 y 0 6 0) 0 7 0) 2 (dfF u 53 N) 53 := ⟨fun k hk => by rw [hx 2 (by omega)]; exact hC.1 k hk, fun k hk => by rw [hx (2 + 1) (by omega)]; exact hC.2.1 k hk, fun i hi => (hC.2.2 i hi).fr (fun x h1 h2 => hx x (by unfold stA at h1; omega))⟩
  have tx : ∀ x, x ≠ 0 → x ≠ 2 → tkF v N x = v x := fun x a b => by unfold tkF; rw [upA_ne b]; simp [up2_ne a]
  have tk : ∀ k, k ≠ 2 → k ≠ 3 → k ≠ 4 → k ≠ 5 → k ≠ 6 → k ≠ 9 → tkF v N 0 k = v 0 k := fun k a b c d e f => by unfold tkF; rw [upA_ne (by omega)]; simp [up2_ap, a, b, c, d, e, f]
  refine ⟨N, 0, hNB.mv hCn (fun _ _ _ => rfl) (fun _ _ => rfl) (by omega), by omega, ⟨0, 0, ?_, ?_, by omega, up2_at, by omega, fun j hj => by omega⟩, ?_, ?_, ?_, fun j hj => ?_⟩
  · rw [up2_k (by omega), up2_at]; rfl
  · unfold tkF; rw [upA_ne (by omega), up2_at]; rfl
  · obtain ⟨l', l1, l2, l3, l4⟩ := hT
    refine ⟨l', l1, ?_, ?_, ?_⟩
    · rw [h0 1 (by omega) (by omega), hy 0 (by omega), hd 0 (by omega), hu 0 (by omega)]; exact l2
    · rw [tk 0 (by omega) (by omega) (by omega) (by omega) (by omega) (by omega), hv.2.1 0 (by omega) (by omega) (by omega)]; exact l3
    · rw [hx 1 (by omega), hy 1 (by omega), hd 1 (by omega), hu 1 (by omega), tx 1 (by omega) (by omega), hv.1 1 (by omega) (by omega) (by omega)]; exact l4
  · exact hBL.cp hCn
  · exact hBL.eq (fun x h1 h2 => by rw [hx x (by omega), hy x (by omega)])
  · exact (hBp j hj).eq (fun x h1 h2 => by unfold pst at h1; rw [hx x (by omega), hy x (by omega), hd x (by omega), hu x (by omega)])
theorem api_lay {μ ν : Mem} {D : Nat} (hG : GR μ ν D) : API mX6_lay mX7_lay [] μ ν (D + 1) := by
  have hT := hG.text
  obtain ⟨tx, l, h1, -, hX⟩ := TXr.tx hT
  obtain ⟨a, U, V, q1, q2, q3, q4, q5⟩ := text_rel hX
  have hG' : ∀ u v, U u → V v → GR u v (D + 1) := fun u v hu hv => (hG.rdd (q3 u hu).1 (q3 u hu).2 (q4 v hv)).net (by omega) (fun _ _ => rfl) (fun _ _ _ => rfl) (fun N t h ht hb => ⟨t, h.eq (fun _ _ _ => rfl) (fun _ _ _ => rfl) (fun _ _ => rfl) (by omega), ht, hb⟩)
  by_cases ha : a = -4
  · obtain ⟨u, v, rfl, rfl, hR⟩ := q5 ha
    obtain ⟨N, hm, sz, hN, hU, hZ, hK, hH, hS⟩ := hR
    by_cases hN0 : N = 0
    · subst hN0
      refine API.of ⟨-2, _, _, c_X6_layN (c_X6_takeTextN h1 q1 (Or.inr ?_)), c_X7_layN q2 (Or.inr ?_), hG'⟩
      · rintro u' rfl; exact hN.1
      · rintro v' rfl; exact hN.2.1
    · have h2 : 2 ≤ N := by rcases hN.2.2.2 with w | w <;> omega
      have hBL := (take_rel hN hU hZ hK hH hS h2).2
      refine API.of ⟨nI N, _, _, c_X6_layY (N := N) (c_X6_takeTextY h1 q1 ha (N := N) (by omega) hN.2.2.1 ?_) ?_, c_X7_layY q2 ha (N := N) (by omega) hN.2.2.1 ?_, ?_⟩
      · rintro u' rfl; exact ⟨hN.1, hBL⟩
      · rintro u' ⟨w, y, rfl, hC, hy, rfl⟩
        rw [up2_ne (by omega), up2_ne (by omega), hC.1 0 (by omega), dfF_n]; exact hN.1
      · rintro v' rfl
        obtain ⟨⟨x, x1, x2, x3, x4⟩, -⟩ := hU
        exact ⟨hN.2.1, by rw [x2]; exact nI_ne (b := 0) (by omega) (by omega) (by omega)⟩
      · rintro u' v' ⟨w, y, rfl, hC, hy, rfl⟩ ⟨w', rfl, rfl⟩
        obtain ⟨N', t', -, -, -, -, hB⟩ := hG
        exact GR.take hT (q3 _ rfl).1 (q4 _ rfl) hB.2.2 hN hU hZ hK hH hS h2 hC hy
  · exact API.of ⟨-2, _, _, c_X6_layN (c_X6_takeTextN h1 q1 (Or.inl ha)), c_X7_layN q2 (Or.inl ha), hG'⟩
