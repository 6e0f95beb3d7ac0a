/-! the reference: fails, sent, isFree, mayBegin, says, sends -/
def falF (f : Nat → Int32) (b i n : Nat) (L M R : Int32) : Nat → Int32 := if f (b + 70 * i + 1) + 1 < R then cmsF (upd (upd f (b + 70 * i + 1) (f (b + 70 * i + 1) + 1)) (b + 70 * i) (if 2 * f (b + 70 * i) ≤ M then 2 * f (b + 70 * i) else M)) b i else ovsF (upd (upd f (b + 70 * i + 1) (f (b + 70 * i + 1) + 1)) (b + 70 * i + 6) (f (b + 70 * i + 6) + 1)) b i n L
set_option maxHeartbeats 4000000 in
set_option maxRecDepth 100000 in
theorem c_X7_fails {ν : Mem} {r i n : Nat} (hr : r < 3) (hi : i < 6) (hn : n < 6) (hc : ν 2 (440 * r + 70 * i + 8) = nI (n + 1)) (hL : ¬ ν 0 3 = 0) (hM : ¬ ν 0 4 = 0) (hw : ¬ 2 * ν 2 (440 * r + 70 * i) = 0) : Con shM mX7_fails [.ref 0, .int (nI r), .int (nI i)] ν (fun _ u => u = upA ν 2 (falF (ν 2) (440 * r) i n (ν 0 3) (ν 0 4) (ν 0 6))) := by
  have m0 : shM[0]? = some (7, 18, [none, some 1, none, none, none, none, none, some 2, some 3, none, none, some 4, none, none, some 5, some 6, some 7, some 8]) := rfl
  have m1 : shM[1]? = some (100, 200, []) := rfl
  have m2 : shM[2]? = some (100, 1320, []) := rfl
  have m3 : shM[3]? = some (100, 1760, []) := rfl
  have m4 : shM[4]? = some (100, 4, []) := rfl
  have m5 : shM[5]? = some (100, 6, []) := rfl
  have m6 : shM[6]? = some (100, 6, []) := rfl
  have m7 : shM[7]? = some (100, 6, []) := rfl
  have m8 : shM[8]? = some (100, 6, []) := rfl
  refine Con.ofAW (al0 := [some (.ref 0), some (.int (nI r)), some (.int (nI i)), none, none]) (by decide) rfl (Nat.le_of_ble_eq_true rfl) rfl ?_
  refine a_iload_n (pc := 0) dX7_fails_0 rfl rfl ?_
  refine a_iload_n (pc := 1) dX7_fails_1 rfl rfl ?_
  refine a_callS2 (pc := 2) cs_X7_52 ⟨(Nat.le_of_ble_eq_true rfl), (Nat.le_of_ble_eq_true rfl)⟩ (Nat.le_of_ble_eq_true rfl) dX7_fails_2 rfl c_X7_at ?_
  rintro r_ u ⟨rfl, rfl⟩
  refine a_istore_n (pc := 5) (al' := [some (.ref _), some (.int _), some (.int _), some (.int _), none]) dX7_fails_5 rfl (by decide) rfl rfl ?_
  refine a_aload_n (pc := 6) dX7_fails_6 rfl rfl ?_
  refine a_getr (pc := 7) fl_X7_13 (by assumption) (by decide) (by rfl) dX7_fails_7 ?_
  refine a_iload_n (pc := 10) dX7_fails_10 rfl rfl ?_
  refine a_iconst (pc := 11) (v := 1) dX7_fails_11 (by decide) ?_
  refine a_iaddN (pc := 12) (a := _) (b := 1) rfl rfl dX7_fails_12 ?_
  refine a_dup2 (pc := 13) dX7_fails_13 rfl rfl ?_
  refine a_iald (pc := 14)  (by assumption) rfl (by omega) (by decide) dX7_fails_14 ?_
  refine a_iconst (pc := 15) (v := 1) dX7_fails_15 (by decide) ?_
  refine a_iadd (pc := 16) dX7_fails_16 ?_
  refine a_iast (pc := 17)  (by assumption) rfl (by omega) (by decide) dX7_fails_17 ?_
  refine a_aload_n (pc := 18) dX7_fails_18 rfl rfl ?_
  refine a_getr (pc := 19) fl_X7_13 (by assumption) (by decide) (by rfl) dX7_fails_19 ?_
  refine a_iload_n (pc := 22) dX7_fails_22 rfl rfl ?_
  refine a_iconst (pc := 23) (v := 1) dX7_fails_23 (by decide) ?_
  refine a_iaddN (pc := 24) (a := _) (b := 1) rfl rfl dX7_fails_24 ?_
  refine a_iald (pc := 25)  (by assumption) rfl (by omega) (by decide) dX7_fails_25 ?_
  refine a_aload_n (pc := 26) dX7_fails_26 rfl rfl ?_
  refine a_geti (pc := 27) fl_X7_68 (by assumption) (by decide) (by rfl) dX7_fails_27 ?_
  refine a_icmp_lt (pc := 30) (tgt := 53) dX7_fails_30 (by decide) (fun c_30 => ?_) (fun c_30 => ?_)
  · refine a_iconst (pc := 53) (v := 2) dX7_fails_53 (by decide) ?_
    refine a_aload_n (pc := 54) dX7_fails_54 rfl rfl ?_
    refine a_getr (pc := 55) fl_X7_13 (by assumption) (by decide) (by rfl) dX7_fails_55 ?_
    refine a_iload_n (pc := 58) dX7_fails_58 rfl rfl ?_
    refine a_iconst (pc := 59) (v := 0) dX7_fails_59 (by decide) ?_
    refine a_iaddN (pc := 60) (a := _) (b := 0) rfl rfl dX7_fails_60 ?_
    refine a_iald (pc := 61)  (by assumption) rfl (by omega) (by decide) dX7_fails_61 ?_
    refine a_imul (pc := 62) dX7_fails_62 ?_
    refine a_istore (pc := 63) (al' := [some (.ref _), some (.int _), some (.int _), some (.int _), some (.int _)]) dX7_fails_63 (by decide) rfl rfl ?_
    refine a_aload_n (pc := 65) dX7_fails_65 rfl rfl ?_
    refine a_getr (pc := 66) fl_X7_13 (by assumption) (by decide) (by rfl) dX7_fails_66 ?_
    refine a_iload_n (pc := 69) dX7_fails_69 rfl rfl ?_
    refine a_iconst (pc := 70) (v := 0) dX7_fails_70 (by decide) ?_
    refine a_iaddN (pc := 71) (a := _) (b := 0) rfl rfl dX7_fails_71 ?_
    refine a_iload (pc := 72) dX7_fails_72 rfl ?_
    refine a_aload_n (pc := 74) dX7_fails_74 rfl rfl ?_
    refine a_geti (pc := 75) fl_X7_62 (by assumption) (by decide) (by rfl) dX7_fails_75 ?_
    refine a_icmp_le (pc := 78) (tgt := 88) dX7_fails_78 (by decide) (fun c_78 => ?_) (fun c_78 => ?_)
    · refine a_iload (pc := 88) dX7_fails_88 rfl ?_
      refine a_iast (pc := 90)  (by assumption) rfl (by omega) (by decide) dX7_fails_90 ?_
      refine a_aload_n (pc := 91) dX7_fails_91 rfl rfl ?_
      refine a_iload_n (pc := 92) dX7_fails_92 rfl rfl ?_
      refine a_iload_n (pc := 93) dX7_fails_93 rfl rfl ?_
      refine a_callV2 (pc := 94) ck_X7_78 ⟨(Nat.le_of_ble_eq_true rfl), (Nat.le_of_ble_eq_true rfl)⟩ (by assumption) (by decide) (Nat.le_of_ble_eq_true rfl) dX7_fails_94 rfl (c_X7_comes hr hi (by simp [up2_eq, upA_upA, upA_ap, up2_upA, upd_ap]; first | exact hM | exact hw)) ?_
      rintro u rfl
      refine a_vret (pc := 97) rfl dX7_fails_97 ?_
      simp_all [falF, up2_eq, upA_upA, upA_ap, up2_upA, upd_ap, -Int32.not_lt, -Int32.not_le, -Nat.not_lt]
    · refine a_aload_n (pc := 81) dX7_fails_81 rfl rfl ?_
      refine a_geti (pc := 82) fl_X7_62 (by assumption) (by decide) (by rfl) dX7_fails_82 ?_
      refine a_goto (pc := 85) (tgt := 90) dX7_fails_85 (by decide) ?_
      refine a_iast (pc := 90)  (by assumption) rfl (by omega) (by decide) dX7_fails_90 ?_
      refine a_aload_n (pc := 91) dX7_fails_91 rfl rfl ?_
      refine a_iload_n (pc := 92) dX7_fails_92 rfl rfl ?_
      refine a_iload_n (pc := 93) dX7_fails_93 rfl rfl ?_
      refine a_callV2 (pc := 94) ck_X7_78 ⟨(Nat.le_of_ble_eq_true rfl), (Nat.le_of_ble_eq_true rfl)⟩ (by assumption) (by decide) (Nat.le_of_ble_eq_true rfl) dX7_fails_94 rfl (c_X7_comes hr hi (by simp [up2_eq, upA_upA, upA_ap, up2_upA, upd_ap]; first | exact hM | exact hw)) ?_
      rintro u rfl
      refine a_vret (pc := 97) rfl dX7_fails_97 ?_
      simp_all [falF, up2_eq, upA_upA, upA_ap, up2_upA, upd_ap, -Int32.not_lt, -Int32.not_le, -Nat.not_lt]
  · refine a_aload_n (pc := 33) dX7_fails_33 rfl rfl ?_
    refine a_getr (pc := 34) fl_X7_13 (by assumption) (by decide) (by rfl) dX7_fails_34 ?_
    refine a_iload_n (pc := 37) dX7_fails_37 rfl rfl ?_
    refine a_bipush (pc := 38) (v := 6) dX7_fails_38 (by decide) ?_
    refine a_iaddN (pc := 40) (a := _) (b := 6) rfl rfl dX7_fails_40 ?_
    refine a_dup2 (pc := 41) dX7_fails_41 rfl rfl ?_
    refine a_iald (pc := 42)  (by assumption) rfl (by omega) (by decide) dX7_fails_42 ?_
    refine a_iconst (pc := 43) (v := 1) dX7_fails_43 (by decide) ?_
    refine a_iadd (pc := 44) dX7_fails_44 ?_
    refine a_iast (pc := 45)  (by assumption) rfl (by omega) (by decide) dX7_fails_45 ?_
    refine a_aload_n (pc := 46) dX7_fails_46 rfl rfl ?_
    refine a_iload_n (pc := 47) dX7_fails_47 rfl rfl ?_
    refine a_iload_n (pc := 48) dX7_fails_48 rfl rfl ?_
    refine a_callV2 (pc := 49) ck_X7_141 ⟨(Nat.le_of_ble_eq_true rfl), (Nat.le_of_ble_eq_true rfl)⟩ (by assumption) (by decide) (Nat.le_of_ble_eq_true rfl) dX7_fails_49 rfl (c_X7_overs (n := n) hr hi hn (by simp [up2_eq, upA_upA, upA_ap, up2_upA, upd_ap]; exact hc) (by simp [up2_eq, upA_upA, upA_ap, up2_upA, upd_ap]; exact hL)) ?_
    rintro u rfl
    refine a_vret (pc := 52) rfl dX7_fails_52 ?_
    simp_all [falF, up2_eq, upA_upA, upA_ap, up2_upA, upd_ap, -Int32.not_lt, -Int32.not_le, -Nat.not_lt]

def sntF (f : Nat → Int32) (b i n t : Nat) (L : Int32) : Nat → Int32 := ovsF (upd (upd f (b + 70 * i + 5) (f (b + 70 * i + 5) + 1)) (b + 429 + t + 1) (f (b + 429 + t + 1) + 1)) b i n L
set_option maxHeartbeats 4000000 in
set_option maxRecDepth 100000 in
theorem c_X7_sent {ν : Mem} {r i n t : Nat} (hr : r < 3) (hi : i < 6) (hn : n < 6) (hc : ν 2 (440 * r + 70 * i + 8) = nI (n + 1)) (hL : ¬ ν 0 3 = 0) (ht : ν 2 (440 * r + 70 * i + 1) = nI t) (htl : t < 9) : Con shM mX7_sent [.ref 0, .int (nI r), .int (nI i)] ν (fun _ u => u = upA ν 2 (sntF (ν 2) (440 * r) i n t (ν 0 3))) := by
  have m0 : shM[0]? = some (7, 18, [none, some 1, none, none, none, none, none, some 2, some 3, none, none, some 4, none, none, some 5, some 6, some 7, some 8]) := rfl
  have m1 : shM[1]? = some (100, 200, []) := rfl
  have m2 : shM[2]? = some (100, 1320, []) := rfl
  have m3 : shM[3]? = some (100, 1760, []) := rfl
  have m4 : shM[4]? = some (100, 4, []) := rfl
  have m5 : shM[5]? = some (100, 6, []) := rfl
  have m6 : shM[6]? = some (100, 6, []) := rfl
  have m7 : shM[7]? = some (100, 6, []) := rfl
  have m8 : shM[8]? = some (100, 6, []) := rfl
  have d1 : ¬ 440 * r + 70 * i + 8 = 440 * r + 429 + t + 1 := by omega
  have d2 : ¬ 440 * r + 429 + t = 440 * r + 70 * i + 4 := by omega
  refine Con.ofAW (al0 := [some (.ref 0), some (.int (nI r)), some (.int (nI i)), none]) (by decide) rfl (Nat.le_of_ble_eq_true rfl) rfl ?_
  refine a_iload_n (pc := 0) dX7_sent_0 rfl rfl ?_
  refine a_iload_n (pc := 1) dX7_sent_1 rfl rfl ?_
  refine a_callS2 (pc := 2) cs_X7_52 ⟨(Nat.le_of_ble_eq_true rfl), (Nat.le_of_ble_eq_true rfl)⟩ (Nat.le_of_ble_eq_true rfl) dX7_sent_2 rfl c_X7_at ?_
  rintro r_ u ⟨rfl, rfl⟩
  refine a_istore_n (pc := 5) (al' := [some (.ref _), some (.int _), some (.int _), some (.int _)]) dX7_sent_5 rfl (by decide) rfl rfl ?_
  refine a_aload_n (pc := 6) dX7_sent_6 rfl rfl ?_
  refine a_getr (pc := 7) fl_X7_13 (by assumption) (by decide) (by rfl) dX7_sent_7 ?_
  refine a_iload_n (pc := 10) dX7_sent_10 rfl rfl ?_
  refine a_iconst (pc := 11) (v := 5) dX7_sent_11 (by decide) ?_
  refine a_iaddN (pc := 12) (a := _) (b := 5) rfl rfl dX7_sent_12 ?_
  refine a_dup2 (pc := 13) dX7_sent_13 rfl rfl ?_
  refine a_iald (pc := 14)  (by assumption) rfl (by omega) (by decide) dX7_sent_14 ?_
  refine a_iconst (pc := 15) (v := 1) dX7_sent_15 (by decide) ?_
  refine a_iadd (pc := 16) dX7_sent_16 ?_
  refine a_iast (pc := 17)  (by assumption) rfl (by omega) (by decide) dX7_sent_17 ?_
  refine a_aload_n (pc := 18) dX7_sent_18 rfl rfl ?_
  refine a_getr (pc := 19) fl_X7_13 (by assumption) (by decide) (by rfl) dX7_sent_19 ?_
  refine a_sipush (pc := 22) (v := 440) dX7_sent_22 (by decide) ?_
  refine a_iload_n (pc := 25) dX7_sent_25 rfl rfl ?_
  refine a_imulN (pc := 26) (a := 440) (b := _) rfl rfl dX7_sent_26 ?_
  refine a_sipush (pc := 27) (v := 429) dX7_sent_27 (by decide) ?_
  refine a_iaddN (pc := 30) (a := _) (b := 429) rfl rfl dX7_sent_30 ?_
  refine a_aload_n (pc := 31) dX7_sent_31 rfl rfl ?_
  refine a_getr (pc := 32) fl_X7_13 (by assumption) (by decide) (by rfl) dX7_sent_32 ?_
  refine a_iload_n (pc := 35) dX7_sent_35 rfl rfl ?_
  refine a_iconst (pc := 36) (v := 1) dX7_sent_36 (by decide) ?_
  refine a_iaddN (pc := 37) (a := _) (b := 1) rfl rfl dX7_sent_37 ?_
  refine a_iald (pc := 38)  (by assumption) rfl (by omega) (by decide) dX7_sent_38 ?_
  refine a_top (y := nI t) (by simp [up2_eq, upA_upA, upA_ap, up2_upA, upd_ap]; exact ht) ?_
  refine a_iaddN (pc := 39) (a := _) (b := _) rfl rfl dX7_sent_39 ?_
  refine a_iconst (pc := 40) (v := 1) dX7_sent_40 (by decide) ?_
  refine a_iaddN (pc := 41) (a := _) (b := 1) rfl rfl dX7_sent_41 ?_
  refine a_dup2 (pc := 42) dX7_sent_42 rfl rfl ?_
  refine a_iald (pc := 43)  (by assumption) rfl (by omega) (by decide) dX7_sent_43 ?_
  refine a_iconst (pc := 44) (v := 1) dX7_sent_44 (by decide) ?_
  refine a_iadd (pc := 45) dX7_sent_45 ?_
  refine a_iast (pc := 46)  (by assumption) rfl (by omega) (by decide) dX7_sent_46 ?_
  refine a_aload_n (pc := 47) dX7_sent_47 rfl rfl ?_
  refine a_iload_n (pc := 48) dX7_sent_48 rfl rfl ?_
  refine a_iload_n (pc := 49) dX7_sent_49 rfl rfl ?_
  refine a_callV2 (pc := 50) ck_X7_141 ⟨(Nat.le_of_ble_eq_true rfl), (Nat.le_of_ble_eq_true rfl)⟩ (by assumption) (by decide) (Nat.le_of_ble_eq_true rfl) dX7_sent_50 rfl (c_X7_overs (n := n) hr hi hn (by simp [up2_eq, upA_upA, upA_ap, up2_upA, upd_ap, d1]; exact hc) (by simp [up2_eq, upA_upA, upA_ap, up2_upA, upd_ap]; exact hL)) ?_
  rintro u rfl
  refine a_vret (pc := 53) rfl dX7_sent_53 ?_
  simp [sntF, up2_eq, upA_upA, upA_ap, up2_upA, upd_ap, d2]

def freP (f : Nat → Int32) (b i : Nat) (sl : Int32) : Prop := ¬ sl ≤ f (b + 70 * i + 3) ∧ f (b + 420 + i) &&& f (b + 427) = 0
set_option maxHeartbeats 4000000 in
set_option maxRecDepth 100000 in
theorem c_X7_isFree {ν : Mem} {r i : Nat} {sl : Int32} (hr : r < 3) (hi : i < 6) : Con shM mX7_isFree [.ref 0, .int (nI r), .int (nI i), .int sl] ν (fun q u => (q = 1 ∧ freP (ν 2) (440 * r) i sl ∨ q = 0 ∧ ¬ freP (ν 2) (440 * r) i sl) ∧ ν = u) := by
  have m0 : shM[0]? = some (7, 18, [none, some 1, none, none, none, none, none, some 2, some 3, none, none, some 4, none, none, some 5, some 6, some 7, some 8]) := rfl
  have m1 : shM[1]? = some (100, 200, []) := rfl
  have m2 : shM[2]? = some (100, 1320, []) := rfl
  have m3 : shM[3]? = some (100, 1760, []) := rfl
  have m4 : shM[4]? = some (100, 4, []) := rfl
  have m5 : shM[5]? = some (100, 6, []) := rfl
  have m6 : shM[6]? = some (100, 6, []) := rfl
  have m7 : shM[7]? = some (100, 6, []) := rfl
  have m8 : shM[8]? = some (100, 6, []) := rfl
  refine Con.ofAW (al0 := [some (.ref 0), some (.int (nI r)), some (.int (nI i)), some (.int sl)]) (by decide) rfl (Nat.le_of_ble_eq_true rfl) rfl ?_
  refine a_iload_n (pc := 0) dX7_isFree_0 rfl rfl ?_
  refine a_aload_n (pc := 1) dX7_isFree_1 rfl rfl ?_
  refine a_getr (pc := 2) fl_X7_13 (by assumption) (by decide) (by rfl) dX7_isFree_2 ?_
  refine a_iload_n (pc := 5) dX7_isFree_5 rfl rfl ?_
  refine a_iload_n (pc := 6) dX7_isFree_6 rfl rfl ?_
  refine a_callS2 (pc := 7) cs_X7_52 ⟨(Nat.le_of_ble_eq_true rfl), (Nat.le_of_ble_eq_true rfl)⟩ (Nat.le_of_ble_eq_true rfl) dX7_isFree_7 rfl c_X7_at ?_
  rintro r_ u ⟨rfl, rfl⟩
  refine a_iconst (pc := 10) (v := 3) dX7_isFree_10 (by decide) ?_
  refine a_iaddN (pc := 11) (a := _) (b := 3) rfl rfl dX7_isFree_11 ?_
  refine a_iald (pc := 12)  (by assumption) rfl (by omega) (by decide) dX7_isFree_12 ?_
  refine a_icmp_le (pc := 13) (tgt := 54) dX7_isFree_13 (by decide) (fun c_13 => ?_) (fun c_13 => ?_)
  · refine a_iconst (pc := 54) (v := 0) dX7_isFree_54 (by decide) ?_
    refine a_zret (pc := 55) rfl (by rfl) dX7_isFree_55 ?_
    simp_all [freP, -Int32.not_lt, -Int32.not_le, -Nat.not_lt]
  · refine a_aload_n (pc := 16) dX7_isFree_16 rfl rfl ?_
    refine a_getr (pc := 17) fl_X7_13 (by assumption) (by decide) (by rfl) dX7_isFree_17 ?_
    refine a_sipush (pc := 20) (v := 440) dX7_isFree_20 (by decide) ?_
    refine a_iload_n (pc := 23) dX7_isFree_23 rfl rfl ?_
    refine a_imulN (pc := 24) (a := 440) (b := _) rfl rfl dX7_isFree_24 ?_
    refine a_sipush (pc := 25) (v := 420) dX7_isFree_25 (by decide) ?_
    refine a_iaddN (pc := 28) (a := _) (b := 420) rfl rfl dX7_isFree_28 ?_
    refine a_iload_n (pc := 29) dX7_isFree_29 rfl rfl ?_
    refine a_iaddN (pc := 30) (a := _) (b := _) rfl rfl dX7_isFree_30 ?_
    refine a_iald (pc := 31)  (by assumption) rfl (by omega) (by decide) dX7_isFree_31 ?_
    refine a_aload_n (pc := 32) dX7_isFree_32 rfl rfl ?_
    refine a_getr (pc := 33) fl_X7_13 (by assumption) (by decide) (by rfl) dX7_isFree_33 ?_
    refine a_sipush (pc := 36) (v := 440) dX7_isFree_36 (by decide) ?_
    refine a_iload_n (pc := 39) dX7_isFree_39 rfl rfl ?_
    refine a_imulN (pc := 40) (a := 440) (b := _) rfl rfl dX7_isFree_40 ?_
    refine a_sipush (pc := 41) (v := 427) dX7_isFree_41 (by decide) ?_
    refine a_iaddN (pc := 44) (a := _) (b := 427) rfl rfl dX7_isFree_44 ?_
    refine a_iald (pc := 45)  (by assumption) rfl (by omega) (by decide) dX7_isFree_45 ?_
    refine a_iand (pc := 46) dX7_isFree_46 ?_
    refine a_if_ne (pc := 47) (tgt := 54) dX7_isFree_47 (by decide) (fun c_47 => ?_) (fun c_47 => ?_)
    · refine a_iconst (pc := 54) (v := 0) dX7_isFree_54 (by decide) ?_
      refine a_zret (pc := 55) rfl (by rfl) dX7_isFree_55 ?_
      simp_all [freP, -Int32.not_lt, -Int32.not_le, -Nat.not_lt]
    · refine a_iconst (pc := 50) (v := 1) dX7_isFree_50 (by decide) ?_
      refine a_goto (pc := 51) (tgt := 55) dX7_isFree_51 (by decide) ?_
      refine a_zret (pc := 55) rfl (by rfl) dX7_isFree_55 ?_
      simp_all [freP, -Int32.not_lt, -Int32.not_le, -Nat.not_lt]

def mb2P (f : Nat → Int32) (b i : Nat) (sl : Int32) : Prop := (f (b + 70 * i + 26) ≤ 0 ∨ ¬ f (b + 70 * i + 27) = sl) ∧ ¬ f (b + 70 * i + 8) ≤ 0 ∧ freP f b i sl
set_option maxHeartbeats 4000000 in
set_option maxRecDepth 100000 in
theorem c_X7_mayBegin {ν : Mem} {r i : Nat} {sl : Int32} (hr : r < 3) (hi : i < 6) : Con shM mX7_mayBegin [.ref 0, .int (nI r), .int (nI i), .int sl] ν (fun q u => (q = 1 ∧ mb2P (ν 2) (440 * r) i sl ∨ q = 0 ∧ ¬ mb2P (ν 2) (440 * r) i sl) ∧ ν = u) := by
  have m0 : shM[0]? = some (7, 18, [none, some 1, none, none, none, none, none, some 2, some 3, none, none, some 4, none, none, some 5, some 6, some 7, some 8]) := rfl
  have m1 : shM[1]? = some (100, 200, []) := rfl
  have m2 : shM[2]? = some (100, 1320, []) := rfl
  have m3 : shM[3]? = some (100, 1760, []) := rfl
  have m4 : shM[4]? = some (100, 4, []) := rfl
  have m5 : shM[5]? = some (100, 6, []) := rfl
  have m6 : shM[6]? = some (100, 6, []) := rfl
  have m7 : shM[7]? = some (100, 6, []) := rfl
  have m8 : shM[8]? = some (100, 6, []) := rfl
  refine Con.ofAW (al0 := [some (.ref 0), some (.int (nI r)), some (.int (nI i)), some (.int sl), none, none]) (by decide) rfl (Nat.le_of_ble_eq_true rfl) rfl ?_
  refine a_iload_n (pc := 0) dX7_mayBegin_0 rfl rfl ?_
  refine a_iload_n (pc := 1) dX7_mayBegin_1 rfl rfl ?_
  refine a_callS2 (pc := 2) cs_X7_52 ⟨(Nat.le_of_ble_eq_true rfl), (Nat.le_of_ble_eq_true rfl)⟩ (Nat.le_of_ble_eq_true rfl) dX7_mayBegin_2 rfl c_X7_at ?_
  rintro r_ u ⟨rfl, rfl⟩
  refine a_istore (pc := 5) (al' := [some (.ref _), some (.int _), some (.int _), some (.int _), some (.int _), none]) dX7_mayBegin_5 (by decide) rfl rfl ?_
  refine a_aload_n (pc := 7) dX7_mayBegin_7 rfl rfl ?_
  refine a_getr (pc := 8) fl_X7_13 (by assumption) (by decide) (by rfl) dX7_mayBegin_8 ?_
  refine a_iload (pc := 11) dX7_mayBegin_11 rfl ?_
  refine a_bipush (pc := 13) (v := 26) dX7_mayBegin_13 (by decide) ?_
  refine a_iaddN (pc := 15) (a := _) (b := 26) rfl rfl dX7_mayBegin_15 ?_
  refine a_iald (pc := 16)  (by assumption) rfl (by omega) (by decide) dX7_mayBegin_16 ?_
  refine a_if_le (pc := 17) (tgt := 38) dX7_mayBegin_17 (by decide) (fun c_17 => ?_) (fun c_17 => ?_)
  · refine a_iconst (pc := 38) (v := 0) dX7_mayBegin_38 (by decide) ?_
    refine a_istore (pc := 39) (al' := [some (.ref _), some (.int _), some (.int _), some (.int _), some (.int _), some (.int _)]) dX7_mayBegin_39 (by decide) rfl rfl ?_
    refine a_iload (pc := 41) dX7_mayBegin_41 rfl ?_
    refine a_if_ne (pc := 43) (tgt := 73) dX7_mayBegin_43 (by decide) (fun c_43 => ?_) (fun c_43 => ?_)
    · exact absurd c_43 (by decide)
    · refine a_aload_n (pc := 46) dX7_mayBegin_46 rfl rfl ?_
      refine a_getr (pc := 47) fl_X7_13 (by assumption) (by decide) (by rfl) dX7_mayBegin_47 ?_
      refine a_iload (pc := 50) dX7_mayBegin_50 rfl ?_
      refine a_bipush (pc := 52) (v := 8) dX7_mayBegin_52 (by decide) ?_
      refine a_iaddN (pc := 54) (a := _) (b := 8) rfl rfl dX7_mayBegin_54 ?_
      refine a_iald (pc := 55)  (by assumption) rfl (by omega) (by decide) dX7_mayBegin_55 ?_
      refine a_if_le (pc := 56) (tgt := 73) dX7_mayBegin_56 (by decide) (fun c_56 => ?_) (fun c_56 => ?_)
      · refine a_iconst (pc := 73) (v := 0) dX7_mayBegin_73 (by decide) ?_
        refine a_zret (pc := 74) rfl (by rfl) dX7_mayBegin_74 ?_
        simp_all [mb2P, -Int32.not_lt, -Int32.not_le, -Nat.not_lt]
      · refine a_aload_n (pc := 59) dX7_mayBegin_59 rfl rfl ?_
        refine a_iload_n (pc := 60) dX7_mayBegin_60 rfl rfl ?_
        refine a_iload_n (pc := 61) dX7_mayBegin_61 rfl rfl ?_
        refine a_iload_n (pc := 62) dX7_mayBegin_62 rfl rfl ?_
        refine a_callI3 (pc := 63) ck_X7_144 ⟨(Nat.le_of_ble_eq_true rfl), (Nat.le_of_ble_eq_true rfl)⟩ (by assumption) (by decide) (Nat.le_of_ble_eq_true rfl) dX7_mayBegin_63 rfl (c_X7_isFree hr hi) ?_
        rintro q_ u ⟨hq, rfl⟩
        refine a_if_eq (pc := 66) (tgt := 73) dX7_mayBegin_66 (by decide) (fun c_66 => ?_) (fun c_66 => ?_)
        · refine a_iconst (pc := 73) (v := 0) dX7_mayBegin_73 (by decide) ?_
          refine a_zret (pc := 74) rfl (by rfl) dX7_mayBegin_74 ?_
          simp_all [mb2P, -Int32.not_lt, -Int32.not_le, -Nat.not_lt]
        · refine a_iconst (pc := 69) (v := 1) dX7_mayBegin_69 (by decide) ?_
          refine a_goto (pc := 70) (tgt := 74) dX7_mayBegin_70 (by decide) ?_
          refine a_zret (pc := 74) rfl (by rfl) dX7_mayBegin_74 ?_
          simp_all [mb2P, -Int32.not_lt, -Int32.not_le, -Nat.not_lt]
  · refine a_aload_n (pc := 20) dX7_mayBegin_20 rfl rfl ?_
    refine a_getr (pc := 21) fl_X7_13 (by assumption) (by decide) (by rfl) dX7_mayBegin_21 ?_
    refine a_iload (pc := 24) dX7_mayBegin_24 rfl ?_
    refine a_bipush (pc := 26) (v := 27) dX7_mayBegin_26 (by decide) ?_
    refine a_iaddN (pc := 28) (a := _) (b := 27) rfl rfl dX7_mayBegin_28 ?_
    refine a_iald (pc := 29)  (by assumption) rfl (by omega) (by decide) dX7_mayBegin_29 ?_
    refine a_iload_n (pc := 30) dX7_mayBegin_30 rfl rfl ?_
    refine a_icmp_ne (pc := 31) (tgt := 38) dX7_mayBegin_31 (by decide) (fun c_31 => ?_) (fun c_31 => ?_)
    · refine a_iconst (pc := 38) (v := 0) dX7_mayBegin_38 (by decide) ?_
      refine a_istore (pc := 39) (al' := [some (.ref _), some (.int _), some (.int _), some (.int _), some (.int _), some (.int _)]) dX7_mayBegin_39 (by decide) rfl rfl ?_
      refine a_iload (pc := 41) dX7_mayBegin_41 rfl ?_
      refine a_if_ne (pc := 43) (tgt := 73) dX7_mayBegin_43 (by decide) (fun c_43 => ?_) (fun c_43 => ?_)
      · exact absurd c_43 (by decide)
      · refine a_aload_n (pc := 46) dX7_mayBegin_46 rfl rfl ?_
        refine a_getr (pc := 47) fl_X7_13 (by assumption) (by decide) (by rfl) dX7_mayBegin_47 ?_
        refine a_iload (pc := 50) dX7_mayBegin_50 rfl ?_
        refine a_bipush (pc := 52) (v := 8) dX7_mayBegin_52 (by decide) ?_
        refine a_iaddN (pc := 54) (a := _) (b := 8) rfl rfl dX7_mayBegin_54 ?_
        refine a_iald (pc := 55)  (by assumption) rfl (by omega) (by decide) dX7_mayBegin_55 ?_
        refine a_if_le (pc := 56) (tgt := 73) dX7_mayBegin_56 (by decide) (fun c_56 => ?_) (fun c_56 => ?_)
        · refine a_iconst (pc := 73) (v := 0) dX7_mayBegin_73 (by decide) ?_
          refine a_zret (pc := 74) rfl (by rfl) dX7_mayBegin_74 ?_
          simp_all [mb2P, -Int32.not_lt, -Int32.not_le, -Nat.not_lt]
        · refine a_aload_n (pc := 59) dX7_mayBegin_59 rfl rfl ?_
          refine a_iload_n (pc := 60) dX7_mayBegin_60 rfl rfl ?_
          refine a_iload_n (pc := 61) dX7_mayBegin_61 rfl rfl ?_
          refine a_iload_n (pc := 62) dX7_mayBegin_62 rfl rfl ?_
          refine a_callI3 (pc := 63) ck_X7_144 ⟨(Nat.le_of_ble_eq_true rfl), (Nat.le_of_ble_eq_true rfl)⟩ (by assumption) (by decide) (Nat.le_of_ble_eq_true rfl) dX7_mayBegin_63 rfl (c_X7_isFree hr hi) ?_
          rintro q_ u ⟨hq, rfl⟩
          refine a_if_eq (pc := 66) (tgt := 73) dX7_mayBegin_66 (by decide) (fun c_66 => ?_) (fun c_66 => ?_)
          · refine a_iconst (pc := 73) (v := 0) dX7_mayBegin_73 (by decide) ?_
            refine a_zret (pc := 74) rfl (by rfl) dX7_mayBegin_74 ?_
            simp_all [mb2P, -Int32.not_lt, -Int32.not_le, -Nat.not_lt]
          · refine a_iconst (pc := 69) (v := 1) dX7_mayBegin_69 (by decide) ?_
            refine a_goto (pc := 70) (tgt := 74) dX7_mayBegin_70 (by decide) ?_
            refine a_zret (pc := 74) rfl (by rfl) dX7_mayBegin_74 ?_
            simp_all [mb2P, -Int32.not_lt, -Int32.not_le, -Nat.not_lt]
    · refine a_iconst (pc := 34) (v := 1) dX7_mayBegin_34 (by decide) ?_
      refine a_goto (pc := 35) (tgt := 39) dX7_mayBegin_35 (by decide) ?_
      refine a_istore (pc := 39) (al' := [some (.ref _), some (.int _), some (.int _), some (.int _), some (.int _), some (.int _)]) dX7_mayBegin_39 (by decide) rfl rfl ?_
      refine a_iload (pc := 41) dX7_mayBegin_41 rfl ?_
      refine a_if_ne (pc := 43) (tgt := 73) dX7_mayBegin_43 (by decide) (fun c_43 => ?_) (fun c_43 => ?_)
      · refine a_iconst (pc := 73) (v := 0) dX7_mayBegin_73 (by decide) ?_
        refine a_zret (pc := 74) rfl (by rfl) dX7_mayBegin_74 ?_
        simp_all [mb2P, -Int32.not_lt, -Int32.not_le, -Nat.not_lt]
      · exact absurd c_43 (by decide)

def wtP (f : Nat → Int32) (b i : Nat) (sl as w : Int32) : Prop := (f (b + 70 * i + 21) = sl ∧ w = 2) ∨ (¬ f (b + 70 * i + 21) = sl ∧ f (b + 70 * i + 24) = sl ∧ w = 4) ∨ (¬ f (b + 70 * i + 21) = sl ∧ ¬ f (b + 70 * i + 24) = sl ∧ f (b + 70 * i + 29) = 1 ∧ w = 3) ∨ (¬ f (b + 70 * i + 21) = sl ∧ ¬ f (b + 70 * i + 24) = sl ∧ ¬ f (b + 70 * i + 29) = 1 ∧ mb2P f b i sl ∧ f (b + 70 * i + 2) = 0 ∧ w = (if f (b + 70 * i + 10) < as then 3 else 1)) ∨ (¬ f (b + 70 * i + 21) = sl ∧ ¬ f (b + 70 * i + 24) = sl ∧ ¬ f (b + 70 * i + 29) = 1 ∧ ¬ (mb2P f b i sl ∧ f (b + 70 * i + 2) = 0) ∧ w = 0)
def whmF (f : Nat → Int32) (b i : Nat) (sl : Int32) : Int32 := if f (b + 70 * i + 21) = sl then f (b + 70 * i + 22) else if f (b + 70 * i + 24) = sl then f (b + 70 * i + 25) else f (b + 70 * i + 9)
def wdeF (f : Nat → Int32) (b i : Nat) (sl : Int32) : Int32 := if f (b + 70 * i + 21) = sl then f (b + 70 * i + 23) else f (b + 70 * i + 10)
def sayF (ν : Mem) (i : Nat) (w wh wd p : Int32) : Mem := upA (upA (upA (upA ν 5 (upd (ν 5) i w)) 6 (upd (ν 6) i wh)) 7 (upd (ν 7) i wd)) 8 (upd (ν 8) i p)
theorem sayF_eq {ν u : Mem} {i : Nat} {w wh wd p : Int32} (h : ∀ x, x ≠ 5 → x ≠ 6 → x ≠ 7 → x ≠ 8 → u x = ν x) (h5 : u 5 = upd (ν 5) i w) (h6 : u 6 = upd (ν 6) i wh) (h7 : u 7 = upd (ν 7) i wd) (h8 : u 8 = upd (ν 8) i p) : u = sayF ν i w wh wd p := by
  funext x
  by_cases e5 : x = 5
  · subst e5; rw [h5]; rfl
  by_cases e6 : x = 6
  · subst e6; rw [h6]; rfl
  by_cases e7 : x = 7
  · subst e7; rw [h7]; rfl
  by_cases e8 : x = 8
  · subst e8; rw [h8]; rfl
  rw [h x e5 e6 e7 e8]
  simp [sayF, upA_ap, e5, e6, e7, e8]
theorem upd_upd {f : Nat → Int32} {k : Nat} {v w : Int32} : upd (upd f k v) k w = upd f k w := by
  funext j; simp only [upd_ap]; by_cases h : j = k <;> simp [h]
set_option maxHeartbeats 4000000 in
set_option maxRecDepth 100000 in
theorem c_X7_says {ν : Mem} {r i : Nat} {sl : Int32} (hr : r < 3) (hi : i < 6) : Con shM mX7_says [.ref 0, .int (nI r), .int (nI i), .int sl] ν (fun _ u => u = sayF ν i (u 5 i) (whmF (ν 2) (440 * r) i sl) (wdeF (ν 2) (440 * r) i sl) (ν 2 (440 * r + 70 * i + 28)) ∧ wtP (ν 2) (440 * r) i sl (ν 0 5) (u 5 i)) := by
  have m0 : shM[0]? = some (7, 18, [none, some 1, none, none, none, none, none, some 2, some 3, none, none, some 4, none, none, some 5, some 6, some 7, some 8]) := rfl
  have m1 : shM[1]? = some (100, 200, []) := rfl
  have m2 : shM[2]? = some (100, 1320, []) := rfl
  have m3 : shM[3]? = some (100, 1760, []) := rfl
  have m4 : shM[4]? = some (100, 4, []) := rfl
  have m5 : shM[5]? = some (100, 6, []) := rfl
  have m6 : shM[6]? = some (100, 6, []) := rfl
  have m7 : shM[7]? = some (100, 6, []) := rfl
  have m8 : shM[8]? = some (100, 6, []) := rfl
  refine Con.ofAW (al0 := [some (.ref 0), some (.int (nI r)), some (.int (nI i)), some (.int sl), none]) (by decide) rfl (Nat.le_of_ble_eq_true rfl) rfl ?_
  refine a_iload_n (pc := 0) dX7_says_0 rfl rfl ?_
  refine a_iload_n (pc := 1) dX7_says_1 rfl rfl ?_
  refine a_callS2 (pc := 2) cs_X7_52 ⟨(Nat.le_of_ble_eq_true rfl), (Nat.le_of_ble_eq_true rfl)⟩ (Nat.le_of_ble_eq_true rfl) dX7_says_2 rfl c_X7_at ?_
  rintro r_ u ⟨rfl, rfl⟩
  refine a_istore (pc := 5) (al' := [some (.ref _), some (.int _), some (.int _), some (.int _), some (.int _)]) dX7_says_5 (by decide) rfl rfl ?_
  refine a_aload_n (pc := 7) dX7_says_7 rfl rfl ?_
  refine a_getr (pc := 8) fl_X7_22 (by assumption) (by decide) (by rfl) dX7_says_8 ?_
  refine a_iload_n (pc := 11) dX7_says_11 rfl rfl ?_
  refine a_iconst (pc := 12) (v := 0) dX7_says_12 (by decide) ?_
  refine a_iast (pc := 13)  (by assumption) rfl (by omega) (by decide) dX7_says_13 ?_
  refine a_aload_n (pc := 14) dX7_says_14 rfl rfl ?_
  refine a_getr (pc := 15) fl_X7_25 (by assumption) (by decide) (by rfl) dX7_says_15 ?_
  refine a_iload_n (pc := 18) dX7_says_18 rfl rfl ?_
  refine a_aload_n (pc := 19) dX7_says_19 rfl rfl ?_
  refine a_getr (pc := 20) fl_X7_13 (by assumption) (by decide) (by rfl) dX7_says_20 ?_
  refine a_iload (pc := 23) dX7_says_23 rfl ?_
  refine a_bipush (pc := 25) (v := 9) dX7_says_25 (by decide) ?_
  refine a_iaddN (pc := 27) (a := _) (b := 9) rfl rfl dX7_says_27 ?_
  refine a_iald (pc := 28)  (by assumption) rfl (by omega) (by decide) dX7_says_28 ?_
  refine a_iast (pc := 29)  (by assumption) rfl (by omega) (by decide) dX7_says_29 ?_
  refine a_aload_n (pc := 30) dX7_says_30 rfl rfl ?_
  refine a_getr (pc := 31) fl_X7_28 (by assumption) (by decide) (by rfl) dX7_says_31 ?_
  refine a_iload_n (pc := 34) dX7_says_34 rfl rfl ?_
  refine a_aload_n (pc := 35) dX7_says_35 rfl rfl ?_
  refine a_getr (pc := 36) fl_X7_13 (by assumption) (by decide) (by rfl) dX7_says_36 ?_
  refine a_iload (pc := 39) dX7_says_39 rfl ?_
  refine a_bipush (pc := 41) (v := 9) dX7_says_41 (by decide) ?_
  refine a_iaddN (pc := 43) (a := _) (b := 9) rfl rfl dX7_says_43 ?_
  refine a_iconst (pc := 44) (v := 1) dX7_says_44 (by decide) ?_
  refine a_iaddN (pc := 45) (a := _) (b := 1) rfl rfl dX7_says_45 ?_
  refine a_iald (pc := 46)  (by assumption) rfl (by omega) (by decide) dX7_says_46 ?_
  refine a_iast (pc := 47)  (by assumption) rfl (by omega) (by decide) dX7_says_47 ?_
  refine a_aload_n (pc := 48) dX7_says_48 rfl rfl ?_
  refine a_getr (pc := 49) fl_X7_31 (by assumption) (by decide) (by rfl) dX7_says_49 ?_
  refine a_iload_n (pc := 52) dX7_says_52 rfl rfl ?_
  refine a_aload_n (pc := 53) dX7_says_53 rfl rfl ?_
  refine a_getr (pc := 54) fl_X7_13 (by assumption) (by decide) (by rfl) dX7_says_54 ?_
  refine a_iload (pc := 57) dX7_says_57 rfl ?_
  refine a_bipush (pc := 59) (v := 28) dX7_says_59 (by decide) ?_
  refine a_iaddN (pc := 61) (a := _) (b := 28) rfl rfl dX7_says_61 ?_
  refine a_iald (pc := 62)  (by assumption) rfl (by omega) (by decide) dX7_says_62 ?_
  refine a_iast (pc := 63)  (by assumption) rfl (by omega) (by decide) dX7_says_63 ?_
  refine a_aload_n (pc := 64) dX7_says_64 rfl rfl ?_
  refine a_getr (pc := 65) fl_X7_13 (by assumption) (by decide) (by rfl) dX7_says_65 ?_
  refine a_iload (pc := 68) dX7_says_68 rfl ?_
  refine a_bipush (pc := 70) (v := 21) dX7_says_70 (by decide) ?_
  refine a_iaddN (pc := 72) (a := _) (b := 21) rfl rfl dX7_says_72 ?_
  refine a_iald (pc := 73)  (by assumption) rfl (by omega) (by decide) dX7_says_73 ?_
  refine a_iload_n (pc := 74) dX7_says_74 rfl rfl ?_
  refine a_icmp_ne (pc := 75) (tgt := 124) dX7_says_75 (by decide) (fun c_75 => ?_) (fun c_75 => ?_)
  · refine a_aload_n (pc := 124) dX7_says_124 rfl rfl ?_
    refine a_getr (pc := 125) fl_X7_13 (by assumption) (by decide) (by rfl) dX7_says_125 ?_
    refine a_iload (pc := 128) dX7_says_128 rfl ?_
    refine a_bipush (pc := 130) (v := 24) dX7_says_130 (by decide) ?_
    refine a_iaddN (pc := 132) (a := _) (b := 24) rfl rfl dX7_says_132 ?_
    refine a_iald (pc := 133)  (by assumption) rfl (by omega) (by decide) dX7_says_133 ?_
    refine a_iload_n (pc := 134) dX7_says_134 rfl rfl ?_
    refine a_icmp_ne (pc := 135) (tgt := 166) dX7_says_135 (by decide) (fun c_135 => ?_) (fun c_135 => ?_)
    · refine a_aload_n (pc := 166) dX7_says_166 rfl rfl ?_
      refine a_getr (pc := 167) fl_X7_13 (by assumption) (by decide) (by rfl) dX7_says_167 ?_
      refine a_iload (pc := 170) dX7_says_170 rfl ?_
      refine a_bipush (pc := 172) (v := 29) dX7_says_172 (by decide) ?_
      refine a_iaddN (pc := 174) (a := _) (b := 29) rfl rfl dX7_says_174 ?_
      refine a_iald (pc := 175)  (by assumption) rfl (by omega) (by decide) dX7_says_175 ?_
      refine a_iconst (pc := 176) (v := 1) dX7_says_176 (by decide) ?_
      refine a_icmp_ne (pc := 177) (tgt := 190) dX7_says_177 (by decide) (fun c_177 => ?_) (fun c_177 => ?_)
      · refine a_aload_n (pc := 190) dX7_says_190 rfl rfl ?_
        refine a_iload_n (pc := 191) dX7_says_191 rfl rfl ?_
        refine a_iload_n (pc := 192) dX7_says_192 rfl rfl ?_
        refine a_iload_n (pc := 193) dX7_says_193 rfl rfl ?_
        refine a_callI3 (pc := 194) ck_X7_147 ⟨(Nat.le_of_ble_eq_true rfl), (Nat.le_of_ble_eq_true rfl)⟩ (by assumption) (by decide) (Nat.le_of_ble_eq_true rfl) dX7_says_194 rfl (c_X7_mayBegin hr hi) ?_
        rintro q_ u ⟨hq, rfl⟩
        refine a_if_eq (pc := 197) (tgt := 236) dX7_says_197 (by decide) (fun c_197 => ?_) (fun c_197 => ?_)
        · refine a_vret (pc := 236) rfl dX7_says_236 ?_
          refine ⟨sayF_eq (fun x e5 e6 e7 e8 => ?_) ?_ ?_ ?_ ?_, ?_⟩
          · simp [up2_eq, upA_upA, upA_ap, up2_upA, upd_upd, e5, e6, e7, e8]
          · simp [up2_eq, upA_upA, upA_ap, up2_upA, upd_upd]; simp [upd_ap]
          · simp_all [whmF, up2_eq, upA_upA, upA_ap, up2_upA, upd_upd]
          · simp_all [wdeF, up2_eq, upA_upA, upA_ap, up2_upA, upd_upd]
          · simp [up2_eq, upA_upA, upA_ap, up2_upA, upd_upd]
          · simp_all [wtP, up2_eq, upA_upA, upA_ap, up2_upA, upd_ap, -Int32.not_lt, -Int32.not_le, -Nat.not_lt]
        · refine a_aload_n (pc := 200) dX7_says_200 rfl rfl ?_
          refine a_getr (pc := 201) fl_X7_13 (by assumption) (by decide) (by rfl) dX7_says_201 ?_
          refine a_iload (pc := 204) dX7_says_204 rfl ?_
          refine a_iconst (pc := 206) (v := 2) dX7_says_206 (by decide) ?_
          refine a_iaddN (pc := 207) (a := _) (b := 2) rfl rfl dX7_says_207 ?_
          refine a_iald (pc := 208)  (by assumption) rfl (by omega) (by decide) dX7_says_208 ?_
          refine a_if_ne (pc := 209) (tgt := 236) dX7_says_209 (by decide) (fun c_209 => ?_) (fun c_209 => ?_)
          · refine a_vret (pc := 236) rfl dX7_says_236 ?_
            refine ⟨sayF_eq (fun x e5 e6 e7 e8 => ?_) ?_ ?_ ?_ ?_, ?_⟩
            · simp [up2_eq, upA_upA, upA_ap, up2_upA, upd_upd, e5, e6, e7, e8]
            · simp [up2_eq, upA_upA, upA_ap, up2_upA, upd_upd]; simp [upd_ap]
            · simp_all [whmF, up2_eq, upA_upA, upA_ap, up2_upA, upd_upd]
            · simp_all [wdeF, up2_eq, upA_upA, upA_ap, up2_upA, upd_upd]
            · simp [up2_eq, upA_upA, upA_ap, up2_upA, upd_upd]
            · simp_all [wtP, up2_eq, upA_upA, upA_ap, up2_upA, upd_ap, -Int32.not_lt, -Int32.not_le, -Nat.not_lt]
          · refine a_aload_n (pc := 212) dX7_says_212 rfl rfl ?_
            refine a_getr (pc := 213) fl_X7_22 (by assumption) (by decide) (by rfl) dX7_says_213 ?_
            refine a_iload_n (pc := 216) dX7_says_216 rfl rfl ?_
            refine a_aload_n (pc := 217) dX7_says_217 rfl rfl ?_
            refine a_getr (pc := 218) fl_X7_28 (by assumption) (by decide) (by rfl) dX7_says_218 ?_
            refine a_iload_n (pc := 221) dX7_says_221 rfl rfl ?_
            refine a_iald (pc := 222)  (by assumption) rfl (by omega) (by decide) dX7_says_222 ?_
            refine a_aload_n (pc := 223) dX7_says_223 rfl rfl ?_
            refine a_geti (pc := 224) fl_X7_65 (by assumption) (by decide) (by rfl) dX7_says_224 ?_
            refine a_icmp_lt (pc := 227) (tgt := 234) dX7_says_227 (by decide) (fun c_227 => ?_) (fun c_227 => ?_)
            · refine a_iconst (pc := 234) (v := 3) dX7_says_234 (by decide) ?_
              refine a_iast (pc := 235)  (by assumption) rfl (by omega) (by decide) dX7_says_235 ?_
              refine a_vret (pc := 236) rfl dX7_says_236 ?_
              refine ⟨sayF_eq (fun x e5 e6 e7 e8 => ?_) ?_ ?_ ?_ ?_, ?_⟩
              · simp [up2_eq, upA_upA, upA_ap, up2_upA, upd_upd, e5, e6, e7, e8]
              · simp [up2_eq, upA_upA, upA_ap, up2_upA, upd_upd]; simp [upd_ap]
              · simp_all [whmF, up2_eq, upA_upA, upA_ap, up2_upA, upd_upd]
              · simp_all [wdeF, up2_eq, upA_upA, upA_ap, up2_upA, upd_upd]
              · simp [up2_eq, upA_upA, upA_ap, up2_upA, upd_upd]
              · simp_all [wtP, up2_eq, upA_upA, upA_ap, up2_upA, upd_ap, -Int32.not_lt, -Int32.not_le, -Nat.not_lt]
            · refine a_iconst (pc := 230) (v := 1) dX7_says_230 (by decide) ?_
              refine a_goto (pc := 231) (tgt := 235) dX7_says_231 (by decide) ?_
              refine a_iast (pc := 235)  (by assumption) rfl (by omega) (by decide) dX7_says_235 ?_
              refine a_vret (pc := 236) rfl dX7_says_236 ?_
              refine ⟨sayF_eq (fun x e5 e6 e7 e8 => ?_) ?_ ?_ ?_ ?_, ?_⟩
              · simp [up2_eq, upA_upA, upA_ap, up2_upA, upd_upd, e5, e6, e7, e8]
              · simp [up2_eq, upA_upA, upA_ap, up2_upA, upd_upd]; simp [upd_ap]
              · simp_all [whmF, up2_eq, upA_upA, upA_ap, up2_upA, upd_upd]
              · simp_all [wdeF, up2_eq, upA_upA, upA_ap, up2_upA, upd_upd]
              · simp [up2_eq, upA_upA, upA_ap, up2_upA, upd_upd]
              · simp_all [wtP, up2_eq, upA_upA, upA_ap, up2_upA, upd_ap, -Int32.not_lt, -Int32.not_le, -Nat.not_lt]
      · refine a_aload_n (pc := 180) dX7_says_180 rfl rfl ?_
        refine a_getr (pc := 181) fl_X7_22 (by assumption) (by decide) (by rfl) dX7_says_181 ?_
        refine a_iload_n (pc := 184) dX7_says_184 rfl rfl ?_
        refine a_iconst (pc := 185) (v := 3) dX7_says_185 (by decide) ?_
        refine a_iast (pc := 186)  (by assumption) rfl (by omega) (by decide) dX7_says_186 ?_
        refine a_goto (pc := 187) (tgt := 236) dX7_says_187 (by decide) ?_
        refine a_vret (pc := 236) rfl dX7_says_236 ?_
        refine ⟨sayF_eq (fun x e5 e6 e7 e8 => ?_) ?_ ?_ ?_ ?_, ?_⟩
        · simp [up2_eq, upA_upA, upA_ap, up2_upA, upd_upd, e5, e6, e7, e8]
        · simp [up2_eq, upA_upA, upA_ap, up2_upA, upd_upd]; simp [upd_ap]
        · simp_all [whmF, up2_eq, upA_upA, upA_ap, up2_upA, upd_upd]
        · simp_all [wdeF, up2_eq, upA_upA, upA_ap, up2_upA, upd_upd]
        · simp [up2_eq, upA_upA, upA_ap, up2_upA, upd_upd]
        · simp_all [wtP, up2_eq, upA_upA, upA_ap, up2_upA, upd_ap, -Int32.not_lt, -Int32.not_le, -Nat.not_lt]
    · refine a_aload_n (pc := 138) dX7_says_138 rfl rfl ?_
      refine a_getr (pc := 139) fl_X7_22 (by assumption) (by decide) (by rfl) dX7_says_139 ?_
      refine a_iload_n (pc := 142) dX7_says_142 rfl rfl ?_
      refine a_iconst (pc := 143) (v := 4) dX7_says_143 (by decide) ?_
      refine a_iast (pc := 144)  (by assumption) rfl (by omega) (by decide) dX7_says_144 ?_
      refine a_aload_n (pc := 145) dX7_says_145 rfl rfl ?_
      refine a_getr (pc := 146) fl_X7_25 (by assumption) (by decide) (by rfl) dX7_says_146 ?_
      refine a_iload_n (pc := 149) dX7_says_149 rfl rfl ?_
      refine a_aload_n (pc := 150) dX7_says_150 rfl rfl ?_
      refine a_getr (pc := 151) fl_X7_13 (by assumption) (by decide) (by rfl) dX7_says_151 ?_
      refine a_iload (pc := 154) dX7_says_154 rfl ?_
      refine a_bipush (pc := 156) (v := 24) dX7_says_156 (by decide) ?_
      refine a_iaddN (pc := 158) (a := _) (b := 24) rfl rfl dX7_says_158 ?_
      refine a_iconst (pc := 159) (v := 1) dX7_says_159 (by decide) ?_
      refine a_iaddN (pc := 160) (a := _) (b := 1) rfl rfl dX7_says_160 ?_
      refine a_iald (pc := 161)  (by assumption) rfl (by omega) (by decide) dX7_says_161 ?_
      refine a_iast (pc := 162)  (by assumption) rfl (by omega) (by decide) dX7_says_162 ?_
      refine a_goto (pc := 163) (tgt := 236) dX7_says_163 (by decide) ?_
      refine a_vret (pc := 236) rfl dX7_says_236 ?_
      refine ⟨sayF_eq (fun x e5 e6 e7 e8 => ?_) ?_ ?_ ?_ ?_, ?_⟩
      · simp [up2_eq, upA_upA, upA_ap, up2_upA, upd_upd, e5, e6, e7, e8]
      · simp [up2_eq, upA_upA, upA_ap, up2_upA, upd_upd]; simp [upd_ap]
      · simp_all [whmF, up2_eq, upA_upA, upA_ap, up2_upA, upd_upd]
      · simp_all [wdeF, up2_eq, upA_upA, upA_ap, up2_upA, upd_upd]
      · simp [up2_eq, upA_upA, upA_ap, up2_upA, upd_upd]
      · simp_all [wtP, up2_eq, upA_upA, upA_ap, up2_upA, upd_ap, -Int32.not_lt, -Int32.not_le, -Nat.not_lt]
  · refine a_aload_n (pc := 78) dX7_says_78 rfl rfl ?_
    refine a_getr (pc := 79) fl_X7_22 (by assumption) (by decide) (by rfl) dX7_says_79 ?_
    refine a_iload_n (pc := 82) dX7_says_82 rfl rfl ?_
    refine a_iconst (pc := 83) (v := 2) dX7_says_83 (by decide) ?_
    refine a_iast (pc := 84)  (by assumption) rfl (by omega) (by decide) dX7_says_84 ?_
    refine a_aload_n (pc := 85) dX7_says_85 rfl rfl ?_
    refine a_getr (pc := 86) fl_X7_25 (by assumption) (by decide) (by rfl) dX7_says_86 ?_
    refine a_iload_n (pc := 89) dX7_says_89 rfl rfl ?_
    refine a_aload_n (pc := 90) dX7_says_90 rfl rfl ?_
    refine a_getr (pc := 91) fl_X7_13 (by assumption) (by decide) (by rfl) dX7_says_91 ?_
    refine a_iload (pc := 94) dX7_says_94 rfl ?_
    refine a_bipush (pc := 96) (v := 21) dX7_says_96 (by decide) ?_
    refine a_iaddN (pc := 98) (a := _) (b := 21) rfl rfl dX7_says_98 ?_
    refine a_iconst (pc := 99) (v := 1) dX7_says_99 (by decide) ?_
    refine a_iaddN (pc := 100) (a := _) (b := 1) rfl rfl dX7_says_100 ?_
    refine a_iald (pc := 101)  (by assumption) rfl (by omega) (by decide) dX7_says_101 ?_
    refine a_iast (pc := 102)  (by assumption) rfl (by omega) (by decide) dX7_says_102 ?_
    refine a_aload_n (pc := 103) dX7_says_103 rfl rfl ?_
    refine a_getr (pc := 104) fl_X7_28 (by assumption) (by decide) (by rfl) dX7_says_104 ?_
    refine a_iload_n (pc := 107) dX7_says_107 rfl rfl ?_
    refine a_aload_n (pc := 108) dX7_says_108 rfl rfl ?_
    refine a_getr (pc := 109) fl_X7_13 (by assumption) (by decide) (by rfl) dX7_says_109 ?_
    refine a_iload (pc := 112) dX7_says_112 rfl ?_
    refine a_bipush (pc := 114) (v := 21) dX7_says_114 (by decide) ?_
    refine a_iaddN (pc := 116) (a := _) (b := 21) rfl rfl dX7_says_116 ?_
    refine a_iconst (pc := 117) (v := 2) dX7_says_117 (by decide) ?_
    refine a_iaddN (pc := 118) (a := _) (b := 2) rfl rfl dX7_says_118 ?_
    refine a_iald (pc := 119)  (by assumption) rfl (by omega) (by decide) dX7_says_119 ?_
    refine a_iast (pc := 120)  (by assumption) rfl (by omega) (by decide) dX7_says_120 ?_
    refine a_goto (pc := 121) (tgt := 236) dX7_says_121 (by decide) ?_
    refine a_vret (pc := 236) rfl dX7_says_236 ?_
    refine ⟨sayF_eq (fun x e5 e6 e7 e8 => ?_) ?_ ?_ ?_ ?_, ?_⟩
    · simp [up2_eq, upA_upA, upA_ap, up2_upA, upd_upd, e5, e6, e7, e8]
    · simp [up2_eq, upA_upA, upA_ap, up2_upA, upd_upd]; simp [upd_ap]
    · simp_all [whmF, up2_eq, upA_upA, upA_ap, up2_upA, upd_upd]
    · simp_all [wdeF, up2_eq, upA_upA, upA_ap, up2_upA, upd_upd]
    · simp [up2_eq, upA_upA, upA_ap, up2_upA, upd_upd]
    · simp_all [wtP, up2_eq, upA_upA, upA_ap, up2_upA, upd_ap, -Int32.not_lt, -Int32.not_le, -Nat.not_lt]

def sdsP (f : Nat → Int32) (b i : Nat) (sl w wd : Int32) (g : Nat → Int32) : Prop := (w = 0 ∧ mb2P f b i sl ∧ g = upd f (b + 70 * i + 2) (f (b + 70 * i + 2) - 1)) ∨ (w = 0 ∧ ¬ mb2P f b i sl ∧ g = upd f (b + 70 * i + 2) (f (b + 70 * i + 2) - 0)) ∨ (w = 1 ∧ g = upd (upd f (b + 70 * i + 26) 1) (b + 70 * i + 27) (sl + 1)) ∨ (w = 3 ∧ wd ≤ f (b + 70 * i + 28) + 1 ∧ g = upd (upd (upd (upd f (b + 70 * i + 28) (f (b + 70 * i + 28) + 1)) (b + 70 * i + 29) 0) (b + 70 * i + 26) 2) (b + 70 * i + 27) (sl + 1)) ∨ (w = 3 ∧ ¬ wd ≤ f (b + 70 * i + 28) + 1 ∧ g = upd (upd f (b + 70 * i + 28) (f (b + 70 * i + 28) + 1)) (b + 70 * i + 29) 1) ∨ (¬ w = 0 ∧ ¬ w = 1 ∧ ¬ w = 3 ∧ g = f)
theorem upA_self {ν : Mem} {o : Nat} : upA ν o (ν o) = ν := by
  funext x; simp only [upA_ap]; by_cases h : x = o
  · rw [if_pos h, h]
  · rw [if_neg h]
set_option maxHeartbeats 4000000 in
set_option maxRecDepth 100000 in
theorem c_X7_sends {ν : Mem} {r i : Nat} {sl : Int32} (hr : r < 3) (hi : i < 6) : Con shM mX7_sends [.ref 0, .int (nI r), .int (nI i), .int sl] ν (fun _ u => u = upA ν 2 (u 2) ∧ sdsP (ν 2) (440 * r) i sl (ν 5 i) (ν 7 i) (u 2)) := by
  have m0 : shM[0]? = some (7, 18, [none, some 1, none, none, none, none, none, some 2, some 3, none, none, some 4, none, none, some 5, some 6, some 7, some 8]) := rfl
  have m1 : shM[1]? = some (100, 200, []) := rfl
  have m2 : shM[2]? = some (100, 1320, []) := rfl
  have m3 : shM[3]? = some (100, 1760, []) := rfl
  have m4 : shM[4]? = some (100, 4, []) := rfl
  have m5 : shM[5]? = some (100, 6, []) := rfl
  have m6 : shM[6]? = some (100, 6, []) := rfl
  have m7 : shM[7]? = some (100, 6, []) := rfl
  have m8 : shM[8]? = some (100, 6, []) := rfl
  refine Con.ofAW (al0 := [some (.ref 0), some (.int (nI r)), some (.int (nI i)), some (.int sl), none]) (by decide) rfl (Nat.le_of_ble_eq_true rfl) rfl ?_
  refine a_iload_n (pc := 0) dX7_sends_0 rfl rfl ?_
  refine a_iload_n (pc := 1) dX7_sends_1 rfl rfl ?_
  refine a_callS2 (pc := 2) cs_X7_52 ⟨(Nat.le_of_ble_eq_true rfl), (Nat.le_of_ble_eq_true rfl)⟩ (Nat.le_of_ble_eq_true rfl) dX7_sends_2 rfl c_X7_at ?_
  rintro r_ u ⟨rfl, rfl⟩
  refine a_istore (pc := 5) (al' := [some (.ref _), some (.int _), some (.int _), some (.int _), some (.int _)]) dX7_sends_5 (by decide) rfl rfl ?_
  refine a_aload_n (pc := 7) dX7_sends_7 rfl rfl ?_
  refine a_getr (pc := 8) fl_X7_22 (by assumption) (by decide) (by rfl) dX7_sends_8 ?_
  refine a_iload_n (pc := 11) dX7_sends_11 rfl rfl ?_
  refine a_iald (pc := 12)  (by assumption) rfl (by omega) (by decide) dX7_sends_12 ?_
  refine a_if_ne (pc := 13) (tgt := 46) dX7_sends_13 (by decide) (fun c_13 => ?_) (fun c_13 => ?_)
  · refine a_aload_n (pc := 46) dX7_sends_46 rfl rfl ?_
    refine a_getr (pc := 47) fl_X7_22 (by assumption) (by decide) (by rfl) dX7_sends_47 ?_
    refine a_iload_n (pc := 50) dX7_sends_50 rfl rfl ?_
    refine a_iald (pc := 51)  (by assumption) rfl (by omega) (by decide) dX7_sends_51 ?_
    refine a_iconst (pc := 52) (v := 1) dX7_sends_52 (by decide) ?_
    refine a_icmp_ne (pc := 53) (tgt := 83) dX7_sends_53 (by decide) (fun c_53 => ?_) (fun c_53 => ?_)
    · refine a_aload_n (pc := 83) dX7_sends_83 rfl rfl ?_
      refine a_getr (pc := 84) fl_X7_22 (by assumption) (by decide) (by rfl) dX7_sends_84 ?_
      refine a_iload_n (pc := 87) dX7_sends_87 rfl rfl ?_
      refine a_iald (pc := 88)  (by assumption) rfl (by omega) (by decide) dX7_sends_88 ?_
      refine a_iconst (pc := 89) (v := 3) dX7_sends_89 (by decide) ?_
      refine a_icmp_ne (pc := 90) (tgt := 178) dX7_sends_90 (by decide) (fun c_90 => ?_) (fun c_90 => ?_)
      · refine a_vret (pc := 178) rfl dX7_sends_178 ?_
        refine ⟨?_, ?_⟩
        · simp only [up2_eq, upA_upA, up2_upA, upA_at, upA_self]
        · simp_all [sdsP, up2_eq, upA_upA, upA_ap, up2_upA, upd_ap, -Int32.not_lt, -Int32.not_le, -Nat.not_lt]
      · refine a_aload_n (pc := 93) dX7_sends_93 rfl rfl ?_
        refine a_getr (pc := 94) fl_X7_13 (by assumption) (by decide) (by rfl) dX7_sends_94 ?_
        refine a_iload (pc := 97) dX7_sends_97 rfl ?_
        refine a_bipush (pc := 99) (v := 28) dX7_sends_99 (by decide) ?_
        refine a_iaddN (pc := 101) (a := _) (b := 28) rfl rfl dX7_sends_101 ?_
        refine a_dup2 (pc := 102) dX7_sends_102 rfl rfl ?_
        refine a_iald (pc := 103)  (by assumption) rfl (by omega) (by decide) dX7_sends_103 ?_
        refine a_iconst (pc := 104) (v := 1) dX7_sends_104 (by decide) ?_
        refine a_iadd (pc := 105) dX7_sends_105 ?_
        refine a_iast (pc := 106)  (by assumption) rfl (by omega) (by decide) dX7_sends_106 ?_
        refine a_aload_n (pc := 107) dX7_sends_107 rfl rfl ?_
        refine a_getr (pc := 108) fl_X7_13 (by assumption) (by decide) (by rfl) dX7_sends_108 ?_
        refine a_iload (pc := 111) dX7_sends_111 rfl ?_
        refine a_bipush (pc := 113) (v := 29) dX7_sends_113 (by decide) ?_
        refine a_iaddN (pc := 115) (a := _) (b := 29) rfl rfl dX7_sends_115 ?_
        refine a_aload_n (pc := 116) dX7_sends_116 rfl rfl ?_
        refine a_getr (pc := 117) fl_X7_13 (by assumption) (by decide) (by rfl) dX7_sends_117 ?_
        refine a_iload (pc := 120) dX7_sends_120 rfl ?_
        refine a_bipush (pc := 122) (v := 28) dX7_sends_122 (by decide) ?_
        refine a_iaddN (pc := 124) (a := _) (b := 28) rfl rfl dX7_sends_124 ?_
        refine a_iald (pc := 125)  (by assumption) rfl (by omega) (by decide) dX7_sends_125 ?_
        refine a_aload_n (pc := 126) dX7_sends_126 rfl rfl ?_
        refine a_getr (pc := 127) fl_X7_28 (by assumption) (by decide) (by rfl) dX7_sends_127 ?_
        refine a_iload_n (pc := 130) dX7_sends_130 rfl rfl ?_
        refine a_iald (pc := 131)  (by assumption) rfl (by omega) (by decide) dX7_sends_131 ?_
        refine a_icmp_ge (pc := 132) (tgt := 139) dX7_sends_132 (by decide) (fun c_132 => ?_) (fun c_132 => ?_)
        · refine a_iconst (pc := 139) (v := 0) dX7_sends_139 (by decide) ?_
          refine a_iast (pc := 140)  (by assumption) rfl (by omega) (by decide) dX7_sends_140 ?_
          refine a_aload_n (pc := 141) dX7_sends_141 rfl rfl ?_
          refine a_getr (pc := 142) fl_X7_13 (by assumption) (by decide) (by rfl) dX7_sends_142 ?_
          refine a_iload (pc := 145) dX7_sends_145 rfl ?_
          refine a_bipush (pc := 147) (v := 29) dX7_sends_147 (by decide) ?_
          refine a_iaddN (pc := 149) (a := _) (b := 29) rfl rfl dX7_sends_149 ?_
          refine a_iald (pc := 150)  (by assumption) rfl (by omega) (by decide) dX7_sends_150 ?_
          refine a_if_ne (pc := 151) (tgt := 178) dX7_sends_151 (by decide) (fun c_151 => ?_) (fun c_151 => ?_)
          · refine a_vret (pc := 178) rfl dX7_sends_178 ?_
            refine ⟨?_, ?_⟩
            · simp only [up2_eq, upA_upA, up2_upA, upA_at, upA_self]
            · simp_all [sdsP, up2_eq, upA_upA, upA_ap, up2_upA, upd_ap, -Int32.not_lt, -Int32.not_le, -Nat.not_lt]
          · refine a_aload_n (pc := 154) dX7_sends_154 rfl rfl ?_
            refine a_getr (pc := 155) fl_X7_13 (by assumption) (by decide) (by rfl) dX7_sends_155 ?_
            refine a_iload (pc := 158) dX7_sends_158 rfl ?_
            refine a_bipush (pc := 160) (v := 26) dX7_sends_160 (by decide) ?_
            refine a_iaddN (pc := 162) (a := _) (b := 26) rfl rfl dX7_sends_162 ?_
            refine a_iconst (pc := 163) (v := 2) dX7_sends_163 (by decide) ?_
            refine a_iast (pc := 164)  (by assumption) rfl (by omega) (by decide) dX7_sends_164 ?_
            refine a_aload_n (pc := 165) dX7_sends_165 rfl rfl ?_
            refine a_getr (pc := 166) fl_X7_13 (by assumption) (by decide) (by rfl) dX7_sends_166 ?_
            refine a_iload (pc := 169) dX7_sends_169 rfl ?_
            refine a_bipush (pc := 171) (v := 27) dX7_sends_171 (by decide) ?_
            refine a_iaddN (pc := 173) (a := _) (b := 27) rfl rfl dX7_sends_173 ?_
            refine a_iload_n (pc := 174) dX7_sends_174 rfl rfl ?_
            refine a_iconst (pc := 175) (v := 1) dX7_sends_175 (by decide) ?_
            refine a_iadd (pc := 176) dX7_sends_176 ?_
            refine a_iast (pc := 177)  (by assumption) rfl (by omega) (by decide) dX7_sends_177 ?_
            refine a_vret (pc := 178) rfl dX7_sends_178 ?_
            refine ⟨?_, ?_⟩
            · simp only [up2_eq, upA_upA, up2_upA, upA_at, upA_self]
            · simp_all [sdsP, up2_eq, upA_upA, upA_ap, up2_upA, upd_ap, -Int32.not_lt, -Int32.not_le, -Nat.not_lt]
        · refine a_iconst (pc := 135) (v := 1) dX7_sends_135 (by decide) ?_
          refine a_goto (pc := 136) (tgt := 140) dX7_sends_136 (by decide) ?_
          refine a_iast (pc := 140)  (by assumption) rfl (by omega) (by decide) dX7_sends_140 ?_
          refine a_aload_n (pc := 141) dX7_sends_141 rfl rfl ?_
          refine a_getr (pc := 142) fl_X7_13 (by assumption) (by decide) (by rfl) dX7_sends_142 ?_
          refine a_iload (pc := 145) dX7_sends_145 rfl ?_
          refine a_bipush (pc := 147) (v := 29) dX7_sends_147 (by decide) ?_
          refine a_iaddN (pc := 149) (a := _) (b := 29) rfl rfl dX7_sends_149 ?_
          refine a_iald (pc := 150)  (by assumption) rfl (by omega) (by decide) dX7_sends_150 ?_
          refine a_if_ne (pc := 151) (tgt := 178) dX7_sends_151 (by decide) (fun c_151 => ?_) (fun c_151 => ?_)
          · refine a_vret (pc := 178) rfl dX7_sends_178 ?_
            refine ⟨?_, ?_⟩
            · simp only [up2_eq, upA_upA, up2_upA, upA_at, upA_self]
            · simp_all [sdsP, up2_eq, upA_upA, upA_ap, up2_upA, upd_ap, -Int32.not_lt, -Int32.not_le, -Nat.not_lt]
          · refine a_aload_n (pc := 154) dX7_sends_154 rfl rfl ?_
            refine a_getr (pc := 155) fl_X7_13 (by assumption) (by decide) (by rfl) dX7_sends_155 ?_
            refine a_iload (pc := 158) dX7_sends_158 rfl ?_
            refine a_bipush (pc := 160) (v := 26) dX7_sends_160 (by decide) ?_
            refine a_iaddN (pc := 162) (a := _) (b := 26) rfl rfl dX7_sends_162 ?_
            refine a_iconst (pc := 163) (v := 2) dX7_sends_163 (by decide) ?_
            refine a_iast (pc := 164)  (by assumption) rfl (by omega) (by decide) dX7_sends_164 ?_
            refine a_aload_n (pc := 165) dX7_sends_165 rfl rfl ?_
            refine a_getr (pc := 166) fl_X7_13 (by assumption) (by decide) (by rfl) dX7_sends_166 ?_
            refine a_iload (pc := 169) dX7_sends_169 rfl ?_
            refine a_bipush (pc := 171) (v := 27) dX7_sends_171 (by decide) ?_
            refine a_iaddN (pc := 173) (a := _) (b := 27) rfl rfl dX7_sends_173 ?_
            refine a_iload_n (pc := 174) dX7_sends_174 rfl rfl ?_
            refine a_iconst (pc := 175) (v := 1) dX7_sends_175 (by decide) ?_
            refine a_iadd (pc := 176) dX7_sends_176 ?_
            refine a_iast (pc := 177)  (by assumption) rfl (by omega) (by decide) dX7_sends_177 ?_
            refine a_vret (pc := 178) rfl dX7_sends_178 ?_
            refine ⟨?_, ?_⟩
            · simp only [up2_eq, upA_upA, up2_upA, upA_at, upA_self]
            · simp_all [sdsP, up2_eq, upA_upA, upA_ap, up2_upA, upd_ap, -Int32.not_lt, -Int32.not_le, -Nat.not_lt]
    · refine a_aload_n (pc := 56) dX7_sends_56 rfl rfl ?_
      refine a_getr (pc := 57) fl_X7_13 (by assumption) (by decide) (by rfl) dX7_sends_57 ?_
      refine a_iload (pc := 60) dX7_sends_60 rfl ?_
      refine a_bipush (pc := 62) (v := 26) dX7_sends_62 (by decide) ?_
      refine a_iaddN (pc := 64) (a := _) (b := 26) rfl rfl dX7_sends_64 ?_
      refine a_iconst (pc := 65) (v := 1) dX7_sends_65 (by decide) ?_
      refine a_iast (pc := 66)  (by assumption) rfl (by omega) (by decide) dX7_sends_66 ?_
      refine a_aload_n (pc := 67) dX7_sends_67 rfl rfl ?_
      refine a_getr (pc := 68) fl_X7_13 (by assumption) (by decide) (by rfl) dX7_sends_68 ?_
      refine a_iload (pc := 71) dX7_sends_71 rfl ?_
      refine a_bipush (pc := 73) (v := 27) dX7_sends_73 (by decide) ?_
      refine a_iaddN (pc := 75) (a := _) (b := 27) rfl rfl dX7_sends_75 ?_
      refine a_iload_n (pc := 76) dX7_sends_76 rfl rfl ?_
      refine a_iconst (pc := 77) (v := 1) dX7_sends_77 (by decide) ?_
      refine a_iadd (pc := 78) dX7_sends_78 ?_
      refine a_iast (pc := 79)  (by assumption) rfl (by omega) (by decide) dX7_sends_79 ?_
      refine a_goto (pc := 80) (tgt := 178) dX7_sends_80 (by decide) ?_
      refine a_vret (pc := 178) rfl dX7_sends_178 ?_
      refine ⟨?_, ?_⟩
      · simp only [up2_eq, upA_upA, up2_upA, upA_at, upA_self]
      · simp_all [sdsP, up2_eq, upA_upA, upA_ap, up2_upA, upd_ap, -Int32.not_lt, -Int32.not_le, -Nat.not_lt]
  · refine a_aload_n (pc := 16) dX7_sends_16 rfl rfl ?_
    refine a_getr (pc := 17) fl_X7_13 (by assumption) (by decide) (by rfl) dX7_sends_17 ?_
    refine a_iload (pc := 20) dX7_sends_20 rfl ?_
    refine a_iconst (pc := 22) (v := 2) dX7_sends_22 (by decide) ?_
    refine a_iaddN (pc := 23) (a := _) (b := 2) rfl rfl dX7_sends_23 ?_
    refine a_dup2 (pc := 24) dX7_sends_24 rfl rfl ?_
    refine a_iald (pc := 25)  (by assumption) rfl (by omega) (by decide) dX7_sends_25 ?_
    refine a_aload_n (pc := 26) dX7_sends_26 rfl rfl ?_
    refine a_iload_n (pc := 27) dX7_sends_27 rfl rfl ?_
    refine a_iload_n (pc := 28) dX7_sends_28 rfl rfl ?_
    refine a_iload_n (pc := 29) dX7_sends_29 rfl rfl ?_
    refine a_callI3 (pc := 30) ck_X7_147 ⟨(Nat.le_of_ble_eq_true rfl), (Nat.le_of_ble_eq_true rfl)⟩ (by assumption) (by decide) (Nat.le_of_ble_eq_true rfl) dX7_sends_30 rfl (c_X7_mayBegin hr hi) ?_
    rintro q_ u ⟨hq, rfl⟩
    refine a_if_eq (pc := 33) (tgt := 40) dX7_sends_33 (by decide) (fun c_33 => ?_) (fun c_33 => ?_)
    · refine a_iconst (pc := 40) (v := 0) dX7_sends_40 (by decide) ?_
      refine a_isub (pc := 41) dX7_sends_41 ?_
      refine a_iast (pc := 42)  (by assumption) rfl (by omega) (by decide) dX7_sends_42 ?_
      refine a_goto (pc := 43) (tgt := 178) dX7_sends_43 (by decide) ?_
      refine a_vret (pc := 178) rfl dX7_sends_178 ?_
      refine ⟨?_, ?_⟩
      · simp only [up2_eq, upA_upA, up2_upA, upA_at, upA_self]
      · simp_all [sdsP, up2_eq, upA_upA, upA_ap, up2_upA, upd_ap, -Int32.not_lt, -Int32.not_le, -Nat.not_lt]
    · refine a_iconst (pc := 36) (v := 1) dX7_sends_36 (by decide) ?_
      refine a_goto (pc := 37) (tgt := 41) dX7_sends_37 (by decide) ?_
      refine a_isub (pc := 41) dX7_sends_41 ?_
      refine a_iast (pc := 42)  (by assumption) rfl (by omega) (by decide) dX7_sends_42 ?_
      refine a_goto (pc := 43) (tgt := 178) dX7_sends_43 (by decide) ?_
      refine a_vret (pc := 178) rfl dX7_sends_178 ?_
      refine ⟨?_, ?_⟩
      · simp only [up2_eq, upA_upA, up2_upA, upA_at, upA_self]
      · simp_all [sdsP, up2_eq, upA_upA, upA_ap, up2_upA, upd_ap, -Int32.not_lt, -Int32.not_le, -Nat.not_lt]

