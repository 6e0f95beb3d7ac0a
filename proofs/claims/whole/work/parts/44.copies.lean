/-! the reference: copies, keeps, undo, clears -/
set_option maxHeartbeats 4000000 in
set_option maxRecDepth 100000 in
theorem l_X7_copies {ν0 : Mem} {a b : Nat} (ha : a < 3) (hb : b < 3) (hab : a ≠ b) {Q : Int32 → Mem → Prop} (hQ : AW shM mX7_copies 39 [some (.ref 0), some (.int (nI a)), some (.int (nI b)), some (.int (nI 440))] [] (upA ν0 2 (fun x => if 440 * b ≤ x ∧ x < 440 * b + (440) then ν0 2 (x - 440 * b + 440 * a) else ν0 2 x)) Q) : ∀ d k : Nat, k + d = 440 → 0 ≤ k → ∀ ν : Mem, ν = upA ν0 2 (fun x => if 440 * b ≤ x ∧ x < 440 * b + k then ν0 2 (x - 440 * b + 440 * a) else ν0 2 x) → AW shM mX7_copies 2 [some (.ref 0), some (.int (nI a)), some (.int (nI b)), some (.int (nI k))] [] ν Q := by
  have m0 : shM[0]? = some (7, 18, [none, some 1, none, none, none, none, none, some 2, some 3, none, none, some 4, none, none, some 5, some 6, some 7, some 8]) := rfl
  have m1 : shM[1]? = some (100, 200, []) := rfl
  have m2 : shM[2]? = some (100, 1320, []) := rfl
  have m3 : shM[3]? = some (100, 1760, []) := rfl
  have m4 : shM[4]? = some (100, 4, []) := rfl
  have m5 : shM[5]? = some (100, 6, []) := rfl
  have m6 : shM[6]? = some (100, 6, []) := rfl
  have m7 : shM[7]? = some (100, 6, []) := rfl
  have m8 : shM[8]? = some (100, 6, []) := rfl
  intro d
  induction d with
  | zero =>
    intro k hk hk0 ν hν
    refine a_iload_n (pc := 2) dX7_copies_2 rfl rfl ?_
    refine a_sipush (pc := 3) (v := 440) dX7_copies_3 (by decide) ?_
    refine a_icmp_ge (pc := 6) (tgt := 39) dX7_copies_6 (by decide) (fun c_6 => ?_) (fun c_6 => ?_)
    · have hkE : k = 440 := by omega
      subst hkE
      exact AW.cast hQ rfl rfl rfl hν.symm
    · exact absurd (nI_le (a := 440) (b := k) (by omega) (by omega)) c_6
  | succ d ih =>
    intro k hk hk0 ν hν
    refine a_iload_n (pc := 2) dX7_copies_2 rfl rfl ?_
    refine a_sipush (pc := 3) (v := 440) dX7_copies_3 (by decide) ?_
    refine a_icmp_ge (pc := 6) (tgt := 39) dX7_copies_6 (by decide) (fun c_6 => ?_) (fun c_6 => ?_)
    · exact absurd c_6 (nI_ge (a := k) (b := 440) (by omega) (by omega))
    · refine a_aload_n (pc := 9) dX7_copies_9 rfl rfl ?_
      refine a_getr (pc := 10) fl_X7_13 (by assumption) (by decide) (by rfl) dX7_copies_10 ?_
      refine a_sipush (pc := 13) (v := 440) dX7_copies_13 (by decide) ?_
      refine a_iload_n (pc := 16) dX7_copies_16 rfl rfl ?_
      refine a_imulN (pc := 17) (a := 440) (b := _) rfl rfl dX7_copies_17 ?_
      refine a_iload_n (pc := 18) dX7_copies_18 rfl rfl ?_
      refine a_iaddN (pc := 19) (a := _) (b := _) rfl rfl dX7_copies_19 ?_
      refine a_aload_n (pc := 20) dX7_copies_20 rfl rfl ?_
      refine a_getr (pc := 21) fl_X7_13 (by assumption) (by decide) (by rfl) dX7_copies_21 ?_
      refine a_sipush (pc := 24) (v := 440) dX7_copies_24 (by decide) ?_
      refine a_iload_n (pc := 27) dX7_copies_27 rfl rfl ?_
      refine a_imulN (pc := 28) (a := 440) (b := _) rfl rfl dX7_copies_28 ?_
      refine a_iload_n (pc := 29) dX7_copies_29 rfl rfl ?_
      refine a_iaddN (pc := 30) (a := _) (b := _) rfl rfl dX7_copies_30 ?_
      refine a_iald (pc := 31)  (by assumption) rfl (by omega) (by decide) dX7_copies_31 ?_
      refine a_iast (pc := 32)  (by assumption) rfl (by omega) (by decide) dX7_copies_32 ?_
      refine a_iincN (pc := 33) (m := 1) (al' := [some (.ref _), some (.int _), some (.int _), some (.int _)]) dX7_copies_33 rfl (by decide) rfl rfl ?_
      refine a_goto (pc := 36) (tgt := 2) dX7_copies_36 (by decide) ?_
      refine ih (k + 1) (by omega) (by omega) _ ?_
      rw [hν, up2_upA]
      congr 1
      funext x
      simp only [upd_ap, upA_at]
      by_cases e1 : x = 440 * b + k
      · rw [if_pos e1]
        rw [if_neg (show ¬ (440 * b ≤ 440 * a + k ∧ 440 * a + k < 440 * b + k) by omega)]
        rw [if_pos (by omega)]
        congr 1; omega
      · rw [if_neg e1]
        by_cases e2 : 440 * b ≤ x ∧ x < 440 * b + k
        · rw [if_pos e2, if_pos (by omega)]
        · rw [if_neg e2, if_neg (by omega)]
def cpsF (f : Nat → Int32) (a b : Nat) : Nat → Int32 := fun x => if 440 * b ≤ x ∧ x < 440 * b + 440 then f (x - 440 * b + 440 * a) else f x
set_option maxHeartbeats 4000000 in
set_option maxRecDepth 100000 in
theorem c_X7_copies {ν : Mem} {a b : Nat} (ha : a < 3) (hb : b < 3) (hab : a ≠ b) : Con shM mX7_copies [.ref 0, .int (nI a), .int (nI b)] ν (fun _ u => u = upA ν 2 (cpsF (ν 2) a b)) := by
  have m0 : shM[0]? = some (7, 18, [none, some 1, none, none, none, none, none, some 2, some 3, none, none, some 4, none, none, some 5, some 6, some 7, some 8]) := rfl
  have m1 : shM[1]? = some (100, 200, []) := rfl
  have m2 : shM[2]? = some (100, 1320, []) := rfl
  have m3 : shM[3]? = some (100, 1760, []) := rfl
  have m4 : shM[4]? = some (100, 4, []) := rfl
  have m5 : shM[5]? = some (100, 6, []) := rfl
  have m6 : shM[6]? = some (100, 6, []) := rfl
  have m7 : shM[7]? = some (100, 6, []) := rfl
  have m8 : shM[8]? = some (100, 6, []) := rfl
  refine Con.ofAW (al0 := [some (.ref 0), some (.int (nI a)), some (.int (nI b)), none]) (by decide) rfl (Nat.le_of_ble_eq_true rfl) rfl ?_
  refine a_iconst (pc := 0) (v := 0) dX7_copies_0 (by decide) ?_
  refine a_istore_n (pc := 1) (al' := [some (.ref _), some (.int _), some (.int _), some (.int _)]) dX7_copies_1 rfl (by decide) rfl rfl ?_
  refine l_X7_copies (ν0 := ν) ha hb hab (a_vret rfl dX7_copies_39 rfl) 440 0 rfl (Nat.le_refl 0) _ ?_
  rw [show (fun x => if 440 * b ≤ x ∧ x < 440 * b + 0 then ν 2 (x - 440 * b + 440 * a) else ν 2 x) = ν 2 from funext fun x => if_neg (by omega), upA_self]

set_option maxHeartbeats 4000000 in
set_option maxRecDepth 100000 in
theorem l_X7_clears {ν0 : Mem} {Q : Int32 → Mem → Prop} (hQ : AW shM mX7_clears 60 [some (.ref 0), some (.int (nI 440))] [] (upA ν0 2 (fun x => if 880 ≤ x ∧ x < 880 + (440) then 0 else ν0 2 x)) Q) : ∀ d k : Nat, k + d = 440 → 0 ≤ k → ∀ ν : Mem, ν = upA ν0 2 (fun x => if 880 ≤ x ∧ x < 880 + k then 0 else ν0 2 x) → AW shM mX7_clears 36 [some (.ref 0), some (.int (nI k))] [] ν Q := by
  have m0 : shM[0]? = some (7, 18, [none, some 1, none, none, none, none, none, some 2, some 3, none, none, some 4, none, none, some 5, some 6, some 7, some 8]) := rfl
  have m1 : shM[1]? = some (100, 200, []) := rfl
  have m2 : shM[2]? = some (100, 1320, []) := rfl
  have m3 : shM[3]? = some (100, 1760, []) := rfl
  have m4 : shM[4]? = some (100, 4, []) := rfl
  have m5 : shM[5]? = some (100, 6, []) := rfl
  have m6 : shM[6]? = some (100, 6, []) := rfl
  have m7 : shM[7]? = some (100, 6, []) := rfl
  have m8 : shM[8]? = some (100, 6, []) := rfl
  intro d
  induction d with
  | zero =>
    intro k hk hk0 ν hν
    refine a_iload_n (pc := 36) dX7_clears_36 rfl rfl ?_
    refine a_sipush (pc := 37) (v := 440) dX7_clears_37 (by decide) ?_
    refine a_icmp_ge (pc := 40) (tgt := 60) dX7_clears_40 (by decide) (fun c_40 => ?_) (fun c_40 => ?_)
    · have hkE : k = 440 := by omega
      subst hkE
      exact AW.cast hQ rfl rfl rfl hν.symm
    · exact absurd (nI_le (a := 440) (b := k) (by omega) (by omega)) c_40
  | succ d ih =>
    intro k hk hk0 ν hν
    refine a_iload_n (pc := 36) dX7_clears_36 rfl rfl ?_
    refine a_sipush (pc := 37) (v := 440) dX7_clears_37 (by decide) ?_
    refine a_icmp_ge (pc := 40) (tgt := 60) dX7_clears_40 (by decide) (fun c_40 => ?_) (fun c_40 => ?_)
    · exact absurd c_40 (nI_ge (a := k) (b := 440) (by omega) (by omega))
    · refine a_aload_n (pc := 43) dX7_clears_43 rfl rfl ?_
      refine a_getr (pc := 44) fl_X7_13 (by assumption) (by decide) (by rfl) dX7_clears_44 ?_
      refine a_sipush (pc := 47) (v := 880) dX7_clears_47 (by decide) ?_
      refine a_iload_n (pc := 50) dX7_clears_50 rfl rfl ?_
      refine a_iaddN (pc := 51) (a := 880) (b := _) rfl rfl dX7_clears_51 ?_
      refine a_iconst (pc := 52) (v := 0) dX7_clears_52 (by decide) ?_
      refine a_iast (pc := 53)  (by assumption) rfl (by omega) (by decide) dX7_clears_53 ?_
      refine a_iincN (pc := 54) (m := 1) (al' := [some (.ref _), some (.int _)]) dX7_clears_54 rfl (by decide) rfl rfl ?_
      refine a_goto (pc := 57) (tgt := 36) dX7_clears_57 (by decide) ?_
      refine ih (k + 1) (by omega) (by omega) _ ?_
      rw [hν, up2_upA]
      congr 1
      funext x
      simp only [upd_ap, upA_at]
      by_cases e1 : x = 880 + k
      · rw [if_pos e1]
        skip
        rw [if_pos (by omega)]
        skip
      · rw [if_neg e1]
        by_cases e2 : 880 ≤ x ∧ x < 880 + k
        · rw [if_pos e2, if_pos (by omega)]
        · rw [if_neg e2, if_neg (by omega)]
def clrF (ν : Mem) : Mem := upA (upA (up2 ν 0 10 0) 4 (upd (upd (upd (upd (ν 4) 0 4) 1 32) 2 3) 3 5)) 2 (fun x => if 880 ≤ x ∧ x < 880 + 440 then 0 else ν 2 x)
set_option maxHeartbeats 4000000 in
set_option maxRecDepth 100000 in
theorem c_X7_clears {ν : Mem} : Con shM mX7_clears [.ref 0] ν (fun _ u => u = clrF ν) := by
  have m0 : shM[0]? = some (7, 18, [none, some 1, none, none, none, none, none, some 2, some 3, none, none, some 4, none, none, some 5, some 6, some 7, some 8]) := rfl
  have m1 : shM[1]? = some (100, 200, []) := rfl
  have m2 : shM[2]? = some (100, 1320, []) := rfl
  have m3 : shM[3]? = some (100, 1760, []) := rfl
  have m4 : shM[4]? = some (100, 4, []) := rfl
  have m5 : shM[5]? = some (100, 6, []) := rfl
  have m6 : shM[6]? = some (100, 6, []) := rfl
  have m7 : shM[7]? = some (100, 6, []) := rfl
  have m8 : shM[8]? = some (100, 6, []) := rfl
  refine Con.ofAW (al0 := [some (.ref 0), none]) (by decide) rfl (Nat.le_of_ble_eq_true rfl) rfl ?_
  refine a_aload_n (pc := 0) dX7_clears_0 rfl rfl ?_
  refine a_iconst (pc := 1) (v := 0) dX7_clears_1 (by decide) ?_
  refine a_puti (pc := 2) fp_X7_37 (by assumption) (by decide) (by rfl) dX7_clears_2 ?_
  refine a_aload_n (pc := 5) dX7_clears_5 rfl rfl ?_
  refine a_getr (pc := 6) fl_X7_19 (by assumption) (by decide) (by rfl) dX7_clears_6 ?_
  refine a_iconst (pc := 9) (v := 0) dX7_clears_9 (by decide) ?_
  refine a_iconst (pc := 10) (v := 4) dX7_clears_10 (by decide) ?_
  refine a_iast (pc := 11) (j := 0) (by assumption) rfl (by omega) (by decide) dX7_clears_11 ?_
  refine a_aload_n (pc := 12) dX7_clears_12 rfl rfl ?_
  refine a_getr (pc := 13) fl_X7_19 (by assumption) (by decide) (by rfl) dX7_clears_13 ?_
  refine a_iconst (pc := 16) (v := 1) dX7_clears_16 (by decide) ?_
  refine a_bipush (pc := 17) (v := 32) dX7_clears_17 (by decide) ?_
  refine a_iast (pc := 19) (j := 1) (by assumption) rfl (by omega) (by decide) dX7_clears_19 ?_
  refine a_aload_n (pc := 20) dX7_clears_20 rfl rfl ?_
  refine a_getr (pc := 21) fl_X7_19 (by assumption) (by decide) (by rfl) dX7_clears_21 ?_
  refine a_iconst (pc := 24) (v := 2) dX7_clears_24 (by decide) ?_
  refine a_iconst (pc := 25) (v := 3) dX7_clears_25 (by decide) ?_
  refine a_iast (pc := 26) (j := 2) (by assumption) rfl (by omega) (by decide) dX7_clears_26 ?_
  refine a_aload_n (pc := 27) dX7_clears_27 rfl rfl ?_
  refine a_getr (pc := 28) fl_X7_19 (by assumption) (by decide) (by rfl) dX7_clears_28 ?_
  refine a_iconst (pc := 31) (v := 3) dX7_clears_31 (by decide) ?_
  refine a_iconst (pc := 32) (v := 5) dX7_clears_32 (by decide) ?_
  refine a_iast (pc := 33) (j := 3) (by assumption) rfl (by omega) (by decide) dX7_clears_33 ?_
  refine a_iconst (pc := 34) (v := 0) dX7_clears_34 (by decide) ?_
  refine a_istore_n (pc := 35) (al' := [some (.ref _), some (.int _)]) dX7_clears_35 rfl (by decide) rfl rfl ?_
  have e0 : up2 (up2 (up2 (up2 (up2 ν 0 10 0) 4 0 4) 4 1 32) 4 2 3) 4 3 5 = upA (up2 ν 0 10 0) 4 (upd (upd (upd (upd (ν 4) 0 4) 1 32) 2 3) 3 5) := by
    simp only [up2_eq, upA_upA, upA_at]
    simp [upA_ap]
  rw [e0]
  refine l_X7_clears (ν0 := upA (up2 ν 0 10 0) 4 (upd (upd (upd (upd (ν 4) 0 4) 1 32) 2 3) 3 5)) (a_vret rfl dX7_clears_60 ?_) 440 0 rfl (Nat.le_refl 0) _ ?_
  · unfold clrF; rw [upA_ne (show (2 : Nat) ≠ 4 by decide), up2_ne (by decide)]
  · rw [show (fun x => if 880 ≤ x ∧ x < 880 + 0 then (0 : Int32) else upA (up2 ν 0 10 0) 4 (upd (upd (upd (upd (ν 4) 0 4) 1 32) 2 3) 3 5) 2 x) = upA (up2 ν 0 10 0) 4 (upd (upd (upd (upd (ν 4) 0 4) 1 32) 2 3) 3 5) 2 from funext fun x => if_neg (by omega), upA_self]

set_option maxHeartbeats 4000000 in
set_option maxRecDepth 100000 in
theorem l1_X7_keeps {ν0 : Mem} {Q : Int32 → Mem → Prop} (hQ : AW shM mX7_keeps 39 [some (.ref 0), some (.int (nI 1320))] [] (upA ν0 3 (fun x => if x < (1320) then ν0 3 (x + 440) else ν0 3 x)) Q) : ∀ d k : Nat, k + d = 1320 → 0 ≤ k → ∀ ν : Mem, ν = upA ν0 3 (fun x => if x < k then ν0 3 (x + 440) else ν0 3 x) → AW shM mX7_keeps 10 [some (.ref 0), some (.int (nI k))] [] ν Q := by
  have m0 : shM[0]? = some (7, 18, [none, some 1, none, none, none, none, none, some 2, some 3, none, none, some 4, none, none, some 5, some 6, some 7, some 8]) := rfl
  have m1 : shM[1]? = some (100, 200, []) := rfl
  have m2 : shM[2]? = some (100, 1320, []) := rfl
  have m3 : shM[3]? = some (100, 1760, []) := rfl
  have m4 : shM[4]? = some (100, 4, []) := rfl
  have m5 : shM[5]? = some (100, 6, []) := rfl
  have m6 : shM[6]? = some (100, 6, []) := rfl
  have m7 : shM[7]? = some (100, 6, []) := rfl
  have m8 : shM[8]? = some (100, 6, []) := rfl
  intro d
  induction d with
  | zero =>
    intro k hk hk0 ν hν
    refine a_iload_n (pc := 10) dX7_keeps_10 rfl rfl ?_
    refine a_sipush (pc := 11) (v := 1320) dX7_keeps_11 (by decide) ?_
    refine a_icmp_ge (pc := 14) (tgt := 39) dX7_keeps_14 (by decide) (fun c_14 => ?_) (fun c_14 => ?_)
    · have hkE : k = 1320 := by omega
      subst hkE
      exact AW.cast hQ rfl rfl rfl hν.symm
    · exact absurd (nI_le (a := 1320) (b := k) (by omega) (by omega)) c_14
  | succ d ih =>
    intro k hk hk0 ν hν
    refine a_iload_n (pc := 10) dX7_keeps_10 rfl rfl ?_
    refine a_sipush (pc := 11) (v := 1320) dX7_keeps_11 (by decide) ?_
    refine a_icmp_ge (pc := 14) (tgt := 39) dX7_keeps_14 (by decide) (fun c_14 => ?_) (fun c_14 => ?_)
    · exact absurd c_14 (nI_ge (a := k) (b := 1320) (by omega) (by omega))
    · refine a_aload_n (pc := 17) dX7_keeps_17 rfl rfl ?_
      refine a_getr (pc := 18) fl_X7_16 (by assumption) (by decide) (by rfl) dX7_keeps_18 ?_
      refine a_iload_n (pc := 21) dX7_keeps_21 rfl rfl ?_
      refine a_aload_n (pc := 22) dX7_keeps_22 rfl rfl ?_
      refine a_getr (pc := 23) fl_X7_16 (by assumption) (by decide) (by rfl) dX7_keeps_23 ?_
      refine a_iload_n (pc := 26) dX7_keeps_26 rfl rfl ?_
      refine a_sipush (pc := 27) (v := 440) dX7_keeps_27 (by decide) ?_
      refine a_iaddN (pc := 30) (a := _) (b := 440) rfl rfl dX7_keeps_30 ?_
      refine a_iald (pc := 31)  (by assumption) rfl (by omega) (by decide) dX7_keeps_31 ?_
      refine a_iast (pc := 32)  (by assumption) rfl (by omega) (by decide) dX7_keeps_32 ?_
      refine a_iincN (pc := 33) (m := 1) (al' := [some (.ref _), some (.int _)]) dX7_keeps_33 rfl (by decide) rfl rfl ?_
      refine a_goto (pc := 36) (tgt := 10) dX7_keeps_36 (by decide) ?_
      refine ih (k + 1) (by omega) (by omega) _ ?_
      rw [hν, up2_upA]
      congr 1
      funext x
      simp only [upd_ap, upA_at]
      by_cases e1 : x = k
      · rw [if_pos e1]
        rw [if_neg (show ¬ k + 440 < k by omega)]
        rw [if_pos (by omega)]
        rw [e1]
      · rw [if_neg e1]
        by_cases e2 : x < k
        · rw [if_pos e2, if_pos (by omega)]
        · rw [if_neg e2, if_neg (by omega)]
set_option maxHeartbeats 4000000 in
set_option maxRecDepth 100000 in
theorem l2_X7_keeps {ν0 : Mem} {c : Nat} (hc : ν0 0 9 = nI c) (hc4 : c < 4) {Q : Int32 → Mem → Prop} (hQ : AW shM mX7_keeps 85 [some (.ref 0), some (.int (nI 440))] [] (upA ν0 3 (fun x => if 440 * c ≤ x ∧ x < 440 * c + (440) then ν0 2 (x - 440 * c) else ν0 3 x)) Q) : ∀ d k : Nat, k + d = 440 → 0 ≤ k → ∀ ν : Mem, ν = upA ν0 3 (fun x => if 440 * c ≤ x ∧ x < 440 * c + k then ν0 2 (x - 440 * c) else ν0 3 x) → AW shM mX7_keeps 51 [some (.ref 0), some (.int (nI k))] [] ν Q := by
  have m0 : shM[0]? = some (7, 18, [none, some 1, none, none, none, none, none, some 2, some 3, none, none, some 4, none, none, some 5, some 6, some 7, some 8]) := rfl
  have m1 : shM[1]? = some (100, 200, []) := rfl
  have m2 : shM[2]? = some (100, 1320, []) := rfl
  have m3 : shM[3]? = some (100, 1760, []) := rfl
  have m4 : shM[4]? = some (100, 4, []) := rfl
  have m5 : shM[5]? = some (100, 6, []) := rfl
  have m6 : shM[6]? = some (100, 6, []) := rfl
  have m7 : shM[7]? = some (100, 6, []) := rfl
  have m8 : shM[8]? = some (100, 6, []) := rfl
  intro d
  induction d with
  | zero =>
    intro k hk hk0 ν hν
    refine a_iload_n (pc := 51) dX7_keeps_51 rfl rfl ?_
    refine a_sipush (pc := 52) (v := 440) dX7_keeps_52 (by decide) ?_
    refine a_icmp_ge (pc := 55) (tgt := 85) dX7_keeps_55 (by decide) (fun c_55 => ?_) (fun c_55 => ?_)
    · have hkE : k = 440 := by omega
      subst hkE
      exact AW.cast hQ rfl rfl rfl hν.symm
    · exact absurd (nI_le (a := 440) (b := k) (by omega) (by omega)) c_55
  | succ d ih =>
    intro k hk hk0 ν hν
    refine a_iload_n (pc := 51) dX7_keeps_51 rfl rfl ?_
    refine a_sipush (pc := 52) (v := 440) dX7_keeps_52 (by decide) ?_
    refine a_icmp_ge (pc := 55) (tgt := 85) dX7_keeps_55 (by decide) (fun c_55 => ?_) (fun c_55 => ?_)
    · exact absurd c_55 (nI_ge (a := k) (b := 440) (by omega) (by omega))
    · refine a_aload_n (pc := 58) dX7_keeps_58 rfl rfl ?_
      refine a_getr (pc := 59) fl_X7_16 (by assumption) (by decide) (by rfl) dX7_keeps_59 ?_
      refine a_sipush (pc := 62) (v := 440) dX7_keeps_62 (by decide) ?_
      refine a_aload_n (pc := 65) dX7_keeps_65 rfl rfl ?_
      refine a_geti (pc := 66) fl_X7_75 (by assumption) (by decide) (by rfl) dX7_keeps_66 ?_
      refine a_top (y := nI c) (show ν 0 9 = nI c by rw [hν, upA_ne (by decide)]; exact hc) ?_
      refine a_imulN (pc := 69) (a := 440) (b := _) rfl rfl dX7_keeps_69 ?_
      refine a_iload_n (pc := 70) dX7_keeps_70 rfl rfl ?_
      refine a_iaddN (pc := 71) (a := _) (b := _) rfl rfl dX7_keeps_71 ?_
      refine a_aload_n (pc := 72) dX7_keeps_72 rfl rfl ?_
      refine a_getr (pc := 73) fl_X7_13 (by assumption) (by decide) (by rfl) dX7_keeps_73 ?_
      refine a_iload_n (pc := 76) dX7_keeps_76 rfl rfl ?_
      refine a_iald (pc := 77)  (by assumption) rfl (by omega) (by decide) dX7_keeps_77 ?_
      refine a_iast (pc := 78)  (by assumption) rfl (by omega) (by decide) dX7_keeps_78 ?_
      refine a_iincN (pc := 79) (m := 1) (al' := [some (.ref _), some (.int _)]) dX7_keeps_79 rfl (by decide) rfl rfl ?_
      refine a_goto (pc := 82) (tgt := 51) dX7_keeps_82 (by decide) ?_
      refine ih (k + 1) (by omega) (by omega) _ ?_
      rw [hν, up2_upA]
      congr 1
      funext x
      simp only [upd_ap, upA_at]
      by_cases e1 : x = 440 * c + k
      · rw [if_pos e1]
        rw [upA_ne (by decide)]
        rw [if_pos (by omega)]
        rw [e1]; congr 1; omega
      · rw [if_neg e1]
        by_cases e2 : 440 * c ≤ x ∧ x < 440 * c + k
        · rw [if_pos e2, if_pos (by omega)]
        · rw [if_neg e2, if_neg (by omega)]
def kpF (w f : Nat → Int32) (c : Nat) : Nat → Int32 := fun x => if 440 * c ≤ x ∧ x < 440 * c + 440 then f (x - 440 * c) else w x
def shwF (w : Nat → Int32) : Nat → Int32 := fun x => if x < 1320 then w (x + 440) else w x
set_option maxRecDepth 100000 in
theorem l3_X7_keeps {ν : Mem} {c : Nat} (hc : ν 0 9 = nI c) (hc4 : c < 4) : AW shM mX7_keeps 51 [some (.ref 0), some (.int (nI 0))] [] ν (fun _ u => u = up2 (upA ν 3 (kpF (ν 3) (ν 2) c)) 0 9 (nI (c + 1))) := by
  have m0 : shM[0]? = some (7, 18, [none, some 1, none, none, none, none, none, some 2, some 3, none, none, some 4, none, none, some 5, some 6, some 7, some 8]) := rfl
  have m1 : shM[1]? = some (100, 200, []) := rfl
  have m2 : shM[2]? = some (100, 1320, []) := rfl
  have m3 : shM[3]? = some (100, 1760, []) := rfl
  have m4 : shM[4]? = some (100, 4, []) := rfl
  have m5 : shM[5]? = some (100, 6, []) := rfl
  have m6 : shM[6]? = some (100, 6, []) := rfl
  have m7 : shM[7]? = some (100, 6, []) := rfl
  have m8 : shM[8]? = some (100, 6, []) := rfl
  refine l2_X7_keeps (ν0 := ν) hc hc4 ?_ 440 0 rfl (Nat.le_refl 0) _ ?_
  · refine a_aload_n (pc := 85) dX7_keeps_85 rfl rfl ?_
    refine a_dup (pc := 86) dX7_keeps_86 rfl ?_
    refine a_geti (pc := 87) fl_X7_75 (by assumption) (by decide) (by rfl) dX7_keeps_87 ?_
    refine a_top (y := nI c) (by rw [upA_ne (by decide)]; exact hc) ?_
    refine a_iconst (pc := 90) (v := 1) dX7_keeps_90 (by decide) ?_
    refine a_iaddN (pc := 91) (a := _) (b := 1) rfl rfl dX7_keeps_91 ?_
    refine a_puti (pc := 92) fp_X7_75 (by assumption) (by decide) (by rfl) dX7_keeps_92 ?_
    refine a_vret (pc := 95) rfl dX7_keeps_95 ?_
    exact rfl
  · rw [show (fun x => if 440 * c ≤ x ∧ x < 440 * c + 0 then ν 2 (x - 440 * c) else ν 3 x) = ν 3 from funext fun x => if_neg (by omega), upA_self]
set_option maxHeartbeats 4000000 in
set_option maxRecDepth 100000 in
theorem c_X7_keeps {ν : Mem} {c : Nat} (hc : ν 0 9 = nI c) (hc4 : c < 4) : Con shM mX7_keeps [.ref 0] ν (fun _ u => u = up2 (upA ν 3 (kpF (ν 3) (ν 2) c)) 0 9 (nI (c + 1))) := by
  have m0 : shM[0]? = some (7, 18, [none, some 1, none, none, none, none, none, some 2, some 3, none, none, some 4, none, none, some 5, some 6, some 7, some 8]) := rfl
  have m1 : shM[1]? = some (100, 200, []) := rfl
  have m2 : shM[2]? = some (100, 1320, []) := rfl
  have m3 : shM[3]? = some (100, 1760, []) := rfl
  have m4 : shM[4]? = some (100, 4, []) := rfl
  have m5 : shM[5]? = some (100, 6, []) := rfl
  have m6 : shM[6]? = some (100, 6, []) := rfl
  have m7 : shM[7]? = some (100, 6, []) := rfl
  have m8 : shM[8]? = some (100, 6, []) := rfl
  refine Con.ofAW (al0 := [some (.ref 0), none]) (by decide) rfl (Nat.le_of_ble_eq_true rfl) rfl ?_
  refine a_aload_n (pc := 0) dX7_keeps_0 rfl rfl ?_
  refine a_geti (pc := 1) fl_X7_75 (by assumption) (by decide) (by rfl) dX7_keeps_1 ?_
  refine a_top (y := nI c) hc ?_
  refine a_iconst (pc := 4) (v := 4) dX7_keeps_4 (by decide) ?_
  refine a_icmp_ne (pc := 5) (tgt := 49) dX7_keeps_5 (by decide) (fun c_5 => ?_) (fun c_5 => ?_)
  · refine a_iconst (pc := 49) (v := 0) dX7_keeps_49 (by decide) ?_
    refine a_istore_n (pc := 50) (al' := [some (.ref _), some (.int _)]) dX7_keeps_50 rfl (by decide) rfl rfl ?_
    exact l3_X7_keeps hc hc4
  · exact absurd c_5 (nI_ne (b := 4) (by omega) (by omega) (by omega))

set_option maxHeartbeats 4000000 in
set_option maxRecDepth 100000 in
theorem c_X7_keeps4 {ν : Mem} (hc : ν 0 9 = nI 4) : Con shM mX7_keeps [.ref 0] ν (fun _ u => u = up2 (upA ν 3 (kpF (shwF (ν 3)) (ν 2) 3)) 0 9 (nI 4)) := by
  have m0 : shM[0]? = some (7, 18, [none, some 1, none, none, none, none, none, some 2, some 3, none, none, some 4, none, none, some 5, some 6, some 7, some 8]) := rfl
  have m1 : shM[1]? = some (100, 200, []) := rfl
  have m2 : shM[2]? = some (100, 1320, []) := rfl
  have m3 : shM[3]? = some (100, 1760, []) := rfl
  have m4 : shM[4]? = some (100, 4, []) := rfl
  have m5 : shM[5]? = some (100, 6, []) := rfl
  have m6 : shM[6]? = some (100, 6, []) := rfl
  have m7 : shM[7]? = some (100, 6, []) := rfl
  have m8 : shM[8]? = some (100, 6, []) := rfl
  refine Con.ofAW (al0 := [some (.ref 0), none]) (by decide) rfl (Nat.le_of_ble_eq_true rfl) rfl ?_
  refine a_aload_n (pc := 0) dX7_keeps_0 rfl rfl ?_
  refine a_geti (pc := 1) fl_X7_75 (by assumption) (by decide) (by rfl) dX7_keeps_1 ?_
  refine a_top (y := nI 4) hc ?_
  refine a_iconst (pc := 4) (v := 4) dX7_keeps_4 (by decide) ?_
  refine a_icmp_ne (pc := 5) (tgt := 49) dX7_keeps_5 (by decide) (fun c_5 => ?_) (fun c_5 => ?_)
  · exact absurd rfl c_5
  · refine a_iconst (pc := 8) (v := 0) dX7_keeps_8 (by decide) ?_
    refine a_istore_n (pc := 9) (al' := [some (.ref _), some (.int _)]) dX7_keeps_9 rfl (by decide) rfl rfl ?_
    refine l1_X7_keeps (ν0 := ν) ?_ 1320 0 rfl (Nat.le_refl 0) _ ?_
    · refine a_aload_n (pc := 39) dX7_keeps_39 rfl rfl ?_
      refine a_dup (pc := 40) dX7_keeps_40 rfl ?_
      refine a_geti (pc := 41) fl_X7_75 (by assumption) (by decide) (by rfl) dX7_keeps_41 ?_
      refine a_top (y := nI 4) (by rw [upA_ne (by decide)]; exact hc) ?_
      refine a_iconst (pc := 44) (v := 1) dX7_keeps_44 (by decide) ?_
      refine a_isubN (pc := 45) (a := _) (b := 1) rfl rfl (by decide) dX7_keeps_45 ?_
      refine a_puti (pc := 46) fp_X7_75 (by assumption) (by decide) (by rfl) dX7_keeps_46 ?_
      refine a_iconst (pc := 49) (v := 0) dX7_keeps_49 (by decide) ?_
      refine a_istore_n (pc := 50) (al' := [some (.ref _), some (.int _)]) dX7_keeps_50 rfl (by decide) rfl rfl ?_
      refine AW.mono (l3_X7_keeps (c := 3) (by rw [up2_at]) (by decide)) ?_
      rintro _ u rfl
      funext x y
      by_cases e0 : x = 0 <;> by_cases e3 : x = 3 <;> by_cases e9 : y = 9 <;> simp_all [up2_ap, upA_ap, shwF, kpF]
    · rw [show (fun x => if x < 0 then ν 3 (x + 440) else ν 3 x) = ν 3 from funext fun x => if_neg (by omega), upA_self]

set_option maxHeartbeats 4000000 in
set_option maxRecDepth 100000 in
theorem l_X7_undo {ν0 : Mem} {c : Nat} (hc : ν0 0 9 = nI c) (hc4 : c < 4) {Q : Int32 → Mem → Prop} (hQ : AW shM mX7_undo 56 [some (.ref 0), some (.int (nI 440))] [] (upA ν0 2 (fun x => if x < (440) then ν0 3 (440 * c + x) else ν0 2 x)) Q) : ∀ d k : Nat, k + d = 440 → 0 ≤ k → ∀ ν : Mem, ν = upA ν0 2 (fun x => if x < k then ν0 3 (440 * c + x) else ν0 2 x) → AW shM mX7_undo 22 [some (.ref 0), some (.int (nI k))] [] ν Q := by
  have m0 : shM[0]? = some (7, 18, [none, some 1, none, none, none, none, none, some 2, some 3, none, none, some 4, none, none, some 5, some 6, some 7, some 8]) := rfl
  have m1 : shM[1]? = some (100, 200, []) := rfl
  have m2 : shM[2]? = some (100, 1320, []) := rfl
  have m3 : shM[3]? = some (100, 1760, []) := rfl
  have m4 : shM[4]? = some (100, 4, []) := rfl
  have m5 : shM[5]? = some (100, 6, []) := rfl
  have m6 : shM[6]? = some (100, 6, []) := rfl
  have m7 : shM[7]? = some (100, 6, []) := rfl
  have m8 : shM[8]? = some (100, 6, []) := rfl
  intro d
  induction d with
  | zero =>
    intro k hk hk0 ν hν
    refine a_iload_n (pc := 22) dX7_undo_22 rfl rfl ?_
    refine a_sipush (pc := 23) (v := 440) dX7_undo_23 (by decide) ?_
    refine a_icmp_ge (pc := 26) (tgt := 56) dX7_undo_26 (by decide) (fun c_26 => ?_) (fun c_26 => ?_)
    · have hkE : k = 440 := by omega
      subst hkE
      exact AW.cast hQ rfl rfl rfl hν.symm
    · exact absurd (nI_le (a := 440) (b := k) (by omega) (by omega)) c_26
  | succ d ih =>
    intro k hk hk0 ν hν
    refine a_iload_n (pc := 22) dX7_undo_22 rfl rfl ?_
    refine a_sipush (pc := 23) (v := 440) dX7_undo_23 (by decide) ?_
    refine a_icmp_ge (pc := 26) (tgt := 56) dX7_undo_26 (by decide) (fun c_26 => ?_) (fun c_26 => ?_)
    · exact absurd c_26 (nI_ge (a := k) (b := 440) (by omega) (by omega))
    · refine a_aload_n (pc := 29) dX7_undo_29 rfl rfl ?_
      refine a_getr (pc := 30) fl_X7_13 (by assumption) (by decide) (by rfl) dX7_undo_30 ?_
      refine a_iload_n (pc := 33) dX7_undo_33 rfl rfl ?_
      refine a_aload_n (pc := 34) dX7_undo_34 rfl rfl ?_
      refine a_getr (pc := 35) fl_X7_16 (by assumption) (by decide) (by rfl) dX7_undo_35 ?_
      refine a_sipush (pc := 38) (v := 440) dX7_undo_38 (by decide) ?_
      refine a_aload_n (pc := 41) dX7_undo_41 rfl rfl ?_
      refine a_geti (pc := 42) fl_X7_75 (by assumption) (by decide) (by rfl) dX7_undo_42 ?_
      refine a_top (y := nI c) (show ν 0 9 = nI c by rw [hν, upA_ne (by decide)]; exact hc) ?_
      refine a_imulN (pc := 45) (a := 440) (b := _) rfl rfl dX7_undo_45 ?_
      refine a_iload_n (pc := 46) dX7_undo_46 rfl rfl ?_
      refine a_iaddN (pc := 47) (a := _) (b := _) rfl rfl dX7_undo_47 ?_
      refine a_iald (pc := 48)  (by assumption) rfl (by omega) (by decide) dX7_undo_48 ?_
      refine a_iast (pc := 49)  (by assumption) rfl (by omega) (by decide) dX7_undo_49 ?_
      refine a_iincN (pc := 50) (m := 1) (al' := [some (.ref _), some (.int _)]) dX7_undo_50 rfl (by decide) rfl rfl ?_
      refine a_goto (pc := 53) (tgt := 22) dX7_undo_53 (by decide) ?_
      refine ih (k + 1) (by omega) (by omega) _ ?_
      rw [hν, up2_upA]
      congr 1
      funext x
      simp only [upd_ap, upA_at]
      by_cases e1 : x = k
      · rw [if_pos e1]
        rw [upA_ne (by decide)]
        rw [if_pos (by omega)]
        rw [e1]
      · rw [if_neg e1]
        by_cases e2 : x < k
        · rw [if_pos e2, if_pos (by omega)]
        · rw [if_neg e2, if_neg (by omega)]
def undF (w f : Nat → Int32) (c : Nat) : Nat → Int32 := fun x => if x < 440 then w (440 * c + x) else f x
set_option maxHeartbeats 4000000 in
set_option maxRecDepth 100000 in
theorem c_X7_undo0 {ν : Mem} (hc : ν 0 9 = 0) : Con shM mX7_undo [.ref 0] ν (fun q u => q = -2 ∧ ν = u) := by
  have m0 : shM[0]? = some (7, 18, [none, some 1, none, none, none, none, none, some 2, some 3, none, none, some 4, none, none, some 5, some 6, some 7, some 8]) := rfl
  have m1 : shM[1]? = some (100, 200, []) := rfl
  have m2 : shM[2]? = some (100, 1320, []) := rfl
  have m3 : shM[3]? = some (100, 1760, []) := rfl
  have m4 : shM[4]? = some (100, 4, []) := rfl
  have m5 : shM[5]? = some (100, 6, []) := rfl
  have m6 : shM[6]? = some (100, 6, []) := rfl
  have m7 : shM[7]? = some (100, 6, []) := rfl
  have m8 : shM[8]? = some (100, 6, []) := rfl
  refine Con.ofAW (al0 := [some (.ref 0), none]) (by decide) rfl (Nat.le_of_ble_eq_true rfl) rfl ?_
  refine a_aload_n (pc := 0) dX7_undo_0 rfl rfl ?_
  refine a_geti (pc := 1) fl_X7_75 (by assumption) (by decide) (by rfl) dX7_undo_1 ?_
  refine a_if_ne (pc := 4) (tgt := 10) dX7_undo_4 (by decide) (fun c_4 => ?_) (fun c_4 => ?_)
  · exact absurd hc c_4
  · refine a_bipush (pc := 7) (v := -2) dX7_undo_7 (by decide) ?_
    refine a_iret (pc := 9) rfl dX7_undo_9 ?_
    exact ⟨rfl, rfl⟩

set_option maxHeartbeats 4000000 in
set_option maxRecDepth 100000 in
theorem c_X7_undo1 {ν : Mem} {c : Nat} (hc : ν 0 9 = nI (c + 1)) (hc4 : c < 4) : Con shM mX7_undo [.ref 0] ν (fun q u => q = nI c ∧ u = upA (up2 ν 0 9 (nI c)) 2 (undF (ν 3) (ν 2) c)) := by
  have m0 : shM[0]? = some (7, 18, [none, some 1, none, none, none, none, none, some 2, some 3, none, none, some 4, none, none, some 5, some 6, some 7, some 8]) := rfl
  have m1 : shM[1]? = some (100, 200, []) := rfl
  have m2 : shM[2]? = some (100, 1320, []) := rfl
  have m3 : shM[3]? = some (100, 1760, []) := rfl
  have m4 : shM[4]? = some (100, 4, []) := rfl
  have m5 : shM[5]? = some (100, 6, []) := rfl
  have m6 : shM[6]? = some (100, 6, []) := rfl
  have m7 : shM[7]? = some (100, 6, []) := rfl
  have m8 : shM[8]? = some (100, 6, []) := rfl
  refine Con.ofAW (al0 := [some (.ref 0), none]) (by decide) rfl (Nat.le_of_ble_eq_true rfl) rfl ?_
  refine a_aload_n (pc := 0) dX7_undo_0 rfl rfl ?_
  refine a_geti (pc := 1) fl_X7_75 (by assumption) (by decide) (by rfl) dX7_undo_1 ?_
  refine a_top (y := nI (c + 1)) hc ?_
  refine a_if_ne (pc := 4) (tgt := 10) dX7_undo_4 (by decide) (fun c_4 => ?_) (fun c_4 => ?_)
  · refine a_aload_n (pc := 10) dX7_undo_10 rfl rfl ?_
    refine a_dup (pc := 11) dX7_undo_11 rfl ?_
    refine a_geti (pc := 12) fl_X7_75 (by assumption) (by decide) (by rfl) dX7_undo_12 ?_
    refine a_top (y := nI (c + 1)) hc ?_
    refine a_iconst (pc := 15) (v := 1) dX7_undo_15 (by decide) ?_
    refine a_isubN (pc := 16) (a := _) (b := 1) rfl rfl (by omega) dX7_undo_16 ?_
    refine a_puti (pc := 17) fp_X7_75 (by assumption) (by decide) (by rfl) dX7_undo_17 ?_
    refine a_iconst (pc := 20) (v := 0) dX7_undo_20 (by decide) ?_
    refine a_istore_n (pc := 21) (al' := [some (.ref _), some (.int _)]) dX7_undo_21 rfl (by decide) rfl rfl ?_
    refine l_X7_undo (ν0 := up2 ν 0 9 (nI c)) (c := c) (by rw [up2_at]) hc4 ?_ 440 0 rfl (Nat.le_refl 0) _ ?_
    · refine a_aload_n (pc := 56) dX7_undo_56 rfl rfl ?_
      refine a_geti (pc := 57) fl_X7_75 (by assumption) (by decide) (by rfl) dX7_undo_57 ?_
      refine a_top (y := nI c) (by rw [upA_ne (by decide), up2_at]) ?_
      refine a_iret (pc := 60) rfl dX7_undo_60 ?_
      exact ⟨rfl, by rw [up2_ne (by decide), up2_ne (by decide)]; rfl⟩
    · rw [show (fun x => if x < 0 then up2 ν 0 9 (nI c) 3 (440 * c + x) else up2 ν 0 9 (nI c) 2 x) = up2 ν 0 9 (nI c) 2 from funext fun x => if_neg (by omega), upA_self]; rfl
  · exact absurd c_4 (nI_ne0 (by omega) (by omega))

