/-! took -/
def tkU (f : Nat → Int32) : Nat → Nat → Int32
  | 0, _ => -4
  | d + 1, j => if f j = 0 then tkU f d (j + 1) else nI j
def tkD (f : Nat → Int32) : Nat → Int32
  | 0 => -4
  | j + 1 => if f (j + 1) = 0 then tkD f j else nI (j + 1)
theorem tkU_congr {f g : Nat → Int32} (h : ∀ k, 1 ≤ k → k ≤ 9 → f k = g k) : ∀ d j, j + d = 10 → 1 ≤ j → tkU f d j = tkU g d j
  | 0, _, _, _ => rfl
  | d + 1, j, h1, h2 => by unfold tkU; rw [h j h2 (by omega), tkU_congr h d (j + 1) (by omega) (by omega)]
theorem tkD_congr {f g : Nat → Int32} (h : ∀ k, 1 ≤ k → k ≤ 9 → f k = g k) : ∀ j, j ≤ 9 → tkD f j = tkD g j
  | 0, _ => rfl
  | j + 1, h1 => by unfold tkD; rw [h (j + 1) (by omega) h1, tkD_congr h j (by omega)]
theorem nI_m1 (j : Nat) : nI (j + 1) + (-1) = nI j := by
  rw [← nI_add j 1, Int32.add_assoc, show nI 1 + (-1 : Int32) = 0 by decide, Int32.add_zero]
theorem isin_y {q v lo hi : Int32} (h : q = 1 ∧ ¬ v < lo ∧ ¬ hi < v ∨ q = 0 ∧ (v < lo ∨ hi < v)) (h1 : ¬ v < lo ∧ ¬ hi < v) : q = 1 := by
  rcases h with q | q
  · exact q.1
  · exact absurd q.2 (fun r => r.elim h1.1 h1.2)
theorem isin_n {q v lo hi : Int32} (h : q = 1 ∧ ¬ v < lo ∧ ¬ hi < v ∨ q = 0 ∧ (v < lo ∨ hi < v)) (h1 : ¬ (¬ v < lo ∧ ¬ hi < v)) : q = 0 := by
  rcases h with q | q
  · exact absurd q.2 h1
  · exact q.1
theorem tk_le {μ : Mem} {n B k : Nat} (hT : TKc μ n B) (hB : B < 2 ^ 31) (h1 : 1 ≤ k) (h2 : k ≤ 9) : μ (n + 1) k ≤ 0 ↔ μ (n + 1) k = 0 := by
  obtain ⟨c, c1, c2⟩ := hT k h1 h2
  rw [c1]
  exact (nI_leI (b := 0) (by omega) (by omega)).trans (Nat.le_zero.trans (nI_eq (b := 0) (by omega) (by omega)).symm)
set_option maxHeartbeats 4000000 in
set_option maxRecDepth 100000 in
theorem l_X6_tookU {μ : Mem} {B : Nat} {a w : Int32} (hT : TKc μ 2 B) (hB : B < 2 ^ 31) {Q : Int32 → Mem → Prop} : ∀ d j : Nat, j + d = 10 → 1 ≤ j → Q (tkU (μ 3) d j) μ → AW shC mX6_took 50 [some (.ref 0), some (.int a), some (.int w), some (.int 1), some (.int (nI j))] [] μ Q := by
  have hn := net_2
  obtain ⟨hn0, hn1, hn2, hnS⟩ := id hn
  have z0 : shC[0]? = some (6, 8, [some 1, none, some 2, some 53, some 104, some 106, none, none]) := rfl
  intro d
  induction d with
  | zero =>
    intro j hd h1 hQ
    have e : j = 10 := by omega
    subst e
    refine a_iload (pc := 50) dX6_took_50 rfl ?_
    refine a_iconst (pc := 52) (v := 1) dX6_took_52 (by decide) ?_
    refine a_icmp_lt (pc := 53) (tgt := 88) dX6_took_53 (by decide) (fun c_53 => ?_) (fun c_53 => ?_)
    · exact absurd c_53 (by decide)
    · refine a_iload (pc := 56) dX6_took_56 rfl ?_
      refine a_bipush (pc := 58) (v := 9) dX6_took_58 (by decide) ?_
      refine a_icmp_gt (pc := 60) (tgt := 88) dX6_took_60 (by decide) (fun c_60 => ?_) (fun c_60 => ?_)
      · refine a_bipush (pc := 88) (v := -4) dX6_took_88 (by decide) ?_
        refine a_iret (pc := 90) rfl dX6_took_90 ?_
        exact hQ
      · exact absurd c_60 (by decide)
  | succ d ih =>
    intro j hd h1 hQ
    refine a_iload (pc := 50) dX6_took_50 rfl ?_
    refine a_iconst (pc := 52) (v := 1) dX6_took_52 (by decide) ?_
    refine a_icmp_lt (pc := 53) (tgt := 88) dX6_took_53 (by decide) (fun c_53 => ?_) (fun c_53 => ?_)
    · exact absurd c_53 (nI_nlt (b := 1) (by omega) (by omega))
    · refine a_iload (pc := 56) dX6_took_56 rfl ?_
      refine a_bipush (pc := 58) (v := 9) dX6_took_58 (by decide) ?_
      refine a_icmp_gt (pc := 60) (tgt := 88) dX6_took_60 (by decide) (fun c_60 => ?_) (fun c_60 => ?_)
      · exact absurd c_60 (nI_nlt (a := 9) (by omega) (by omega))
      · refine a_aload_n (pc := 63) dX6_took_63 rfl rfl ?_
        refine a_getr (pc := 64) fl_X6_16 (by assumption) (by decide) (by rfl) dX6_took_64 ?_
        refine a_getr (pc := 67) fl_X6_194 (by assumption) (by decide) (by rfl) dX6_took_67 ?_
        refine a_iload (pc := 70) dX6_took_70 rfl ?_
        refine a_iald (pc := 72)  (by assumption) rfl (by omega) (by decide) dX6_took_72 ?_
        refine a_if_le (pc := 73) (tgt := 79) dX6_took_73 (by decide) (fun c_73 => ?_) (fun c_73 => ?_)
        · refine a_iload (pc := 79) dX6_took_79 rfl ?_
          refine a_iload_n (pc := 81) dX6_took_81 rfl rfl ?_
          refine a_iaddN (pc := 82) (a := _) (b := 1) rfl rfl dX6_took_82 ?_
          refine a_istore (pc := 83) (al' := [some (.ref _), some (.int _), some (.int _), some (.int _), some (.int _)]) dX6_took_83 (by decide) rfl rfl ?_
          refine a_goto (pc := 85) (tgt := 50) dX6_took_85 (by decide) ?_
          refine ih (j + 1) (by omega) (by omega) ?_
          unfold tkU at hQ
          rw [if_pos ((tk_le hT hB h1 (by omega)).mp c_73)] at hQ
          exact hQ
        · refine a_iload (pc := 76) dX6_took_76 rfl ?_
          refine a_iret (pc := 78) rfl dX6_took_78 ?_
          unfold tkU at hQ
          rw [if_neg (fun q => c_73 ((tk_le hT hB h1 (by omega)).mpr q))] at hQ
          exact hQ

set_option maxHeartbeats 4000000 in
set_option maxRecDepth 100000 in
theorem l_X6_tookD {μ : Mem} {B : Nat} {a w : Int32} (hT : TKc μ 2 B) (hB : B < 2 ^ 31) {Q : Int32 → Mem → Prop} : ∀ j : Nat, j ≤ 9 → Q (tkD (μ 3) j) μ → AW shC mX6_took 50 [some (.ref 0), some (.int a), some (.int w), some (.int (-1)), some (.int (nI j))] [] μ Q := by
  have hn := net_2
  obtain ⟨hn0, hn1, hn2, hnS⟩ := id hn
  have z0 : shC[0]? = some (6, 8, [some 1, none, some 2, some 53, some 104, some 106, none, none]) := rfl
  intro j
  induction j with
  | zero =>
    intro hd hQ
    refine a_iload (pc := 50) dX6_took_50 rfl ?_
    refine a_iconst (pc := 52) (v := 1) dX6_took_52 (by decide) ?_
    refine a_icmp_lt (pc := 53) (tgt := 88) dX6_took_53 (by decide) (fun c_53 => ?_) (fun c_53 => ?_)
    · refine a_bipush (pc := 88) (v := -4) dX6_took_88 (by decide) ?_
      refine a_iret (pc := 90) rfl dX6_took_90 ?_
      exact hQ
    · exact absurd (by decide) c_53
  | succ j ih =>
    intro hd hQ
    refine a_iload (pc := 50) dX6_took_50 rfl ?_
    refine a_iconst (pc := 52) (v := 1) dX6_took_52 (by decide) ?_
    refine a_icmp_lt (pc := 53) (tgt := 88) dX6_took_53 (by decide) (fun c_53 => ?_) (fun c_53 => ?_)
    · exact absurd c_53 (nI_nlt (b := 1) (by omega) (by omega))
    · refine a_iload (pc := 56) dX6_took_56 rfl ?_
      refine a_bipush (pc := 58) (v := 9) dX6_took_58 (by decide) ?_
      refine a_icmp_gt (pc := 60) (tgt := 88) dX6_took_60 (by decide) (fun c_60 => ?_) (fun c_60 => ?_)
      · exact absurd c_60 (nI_nlt (a := 9) (by omega) (by omega))
      · refine a_aload_n (pc := 63) dX6_took_63 rfl rfl ?_
        refine a_getr (pc := 64) fl_X6_16 (by assumption) (by decide) (by rfl) dX6_took_64 ?_
        refine a_getr (pc := 67) fl_X6_194 (by assumption) (by decide) (by rfl) dX6_took_67 ?_
        refine a_iload (pc := 70) dX6_took_70 rfl ?_
        refine a_iald (pc := 72)  (by assumption) rfl (by omega) (by decide) dX6_took_72 ?_
        refine a_if_le (pc := 73) (tgt := 79) dX6_took_73 (by decide) (fun c_73 => ?_) (fun c_73 => ?_)
        · refine a_iload (pc := 79) dX6_took_79 rfl ?_
          refine a_iload_n (pc := 81) dX6_took_81 rfl rfl ?_
          refine a_iadd (pc := 82) dX6_took_82 ?_
          refine a_top (y := nI j) (nI_m1 j) ?_
          refine a_istore (pc := 83) (al' := [some (.ref _), some (.int _), some (.int _), some (.int _), some (.int _)]) dX6_took_83 (by decide) rfl rfl ?_
          refine a_goto (pc := 85) (tgt := 50) dX6_took_85 (by decide) ?_
          refine ih (by omega) ?_
          unfold tkD at hQ
          rw [if_pos ((tk_le hT hB (by omega) (by omega)).mp c_73)] at hQ
          exact hQ
        · refine a_iload (pc := 76) dX6_took_76 rfl ?_
          refine a_iret (pc := 78) rfl dX6_took_78 ?_
          unfold tkD at hQ
          rw [if_neg (fun q => c_73 ((tk_le hT hB (by omega) (by omega)).mpr q))] at hQ
          exact hQ

set_option maxHeartbeats 4000000 in
set_option maxRecDepth 100000 in
theorem l_X7_tookU {ν : Mem} {a w : Int32} {Q : Int32 → Mem → Prop} : ∀ d j : Nat, j + d = 10 → 1 ≤ j → Q (tkU (fun k => ν 2 (429 + k)) d j) ν → AW shM mX7_took 50 [some (.ref 0), some (.int a), some (.int w), some (.int 1), some (.int (nI j))] [] ν Q := by
  have m0 : shM[0]? = some (7, 18, [none, some 1, none, none, none, none, none, some 2, some 3, none, none, some 4, none, none, some 5, some 6, some 7, some 8]) := rfl
  have m1 : shM[1]? = some (100, 200, []) := rfl
  have m2 : shM[2]? = some (100, 1320, []) := rfl
  have m3 : shM[3]? = some (100, 1760, []) := rfl
  have m4 : shM[4]? = some (100, 4, []) := rfl
  have m5 : shM[5]? = some (100, 6, []) := rfl
  have m6 : shM[6]? = some (100, 6, []) := rfl
  have m7 : shM[7]? = some (100, 6, []) := rfl
  have m8 : shM[8]? = some (100, 6, []) := rfl
  intro d
  induction d with
  | zero =>
    intro j hd h1 hQ
    have e : j = 10 := by omega
    subst e
    refine a_iload (pc := 50) dX7_took_50 rfl ?_
    refine a_iconst (pc := 52) (v := 1) dX7_took_52 (by decide) ?_
    refine a_bipush (pc := 53) (v := 9) dX7_took_53 (by decide) ?_
    refine a_callS3 (pc := 55) cs_X7_94 ⟨(Nat.le_of_ble_eq_true rfl), (Nat.le_of_ble_eq_true rfl)⟩ (Nat.le_of_ble_eq_true rfl) dX7_took_55 rfl c_X7_isIn ?_
    rintro r u ⟨hr, rfl⟩
    have hr1 := isin_n hr (by decide)
    subst hr1
    refine a_if_eq (pc := 58) (tgt := 84) dX7_took_58 (by decide) (fun c_58 => ?_) (fun c_58 => ?_)
    · refine a_iload (pc := 84) dX7_took_84 rfl ?_
      refine a_iconst (pc := 86) (v := 1) dX7_took_86 (by decide) ?_
      refine a_bipush (pc := 87) (v := 9) dX7_took_87 (by decide) ?_
      refine a_callS3 (pc := 89) cs_X7_94 ⟨(Nat.le_of_ble_eq_true rfl), (Nat.le_of_ble_eq_true rfl)⟩ (Nat.le_of_ble_eq_true rfl) dX7_took_89 rfl c_X7_isIn ?_
      rintro r u ⟨hr, rfl⟩
      have hr1 := isin_n hr (by decide)
      subst hr1
      refine a_if_eq (pc := 92) (tgt := 100) dX7_took_92 (by decide) (fun c_92 => ?_) (fun c_92 => ?_)
      · refine a_bipush (pc := 100) (v := -4) dX7_took_100 (by decide) ?_
        refine a_iret (pc := 102) rfl dX7_took_102 ?_
        exact hQ
      · exact absurd c_92 (by decide)
    · exact absurd c_58 (by decide)
  | succ d ih =>
    intro j hd h1 hQ
    refine a_iload (pc := 50) dX7_took_50 rfl ?_
    refine a_iconst (pc := 52) (v := 1) dX7_took_52 (by decide) ?_
    refine a_bipush (pc := 53) (v := 9) dX7_took_53 (by decide) ?_
    refine a_callS3 (pc := 55) cs_X7_94 ⟨(Nat.le_of_ble_eq_true rfl), (Nat.le_of_ble_eq_true rfl)⟩ (Nat.le_of_ble_eq_true rfl) dX7_took_55 rfl c_X7_isIn ?_
    rintro r u ⟨hr, rfl⟩
    have hr1 := isin_y hr (⟨nI_nlt (b := 1) (by omega) (by omega), nI_nlt (a := 9) (by omega) (by omega)⟩)
    subst hr1
    refine a_if_eq (pc := 58) (tgt := 84) dX7_took_58 (by decide) (fun c_58 => ?_) (fun c_58 => ?_)
    · exact absurd c_58 (by decide)
    · refine a_aload_n (pc := 61) dX7_took_61 rfl rfl ?_
      refine a_getr (pc := 62) fl_X7_13 (by assumption) (by decide) (by rfl) dX7_took_62 ?_
      refine a_sipush (pc := 65) (v := 429) dX7_took_65 (by decide) ?_
      refine a_iload (pc := 68) dX7_took_68 rfl ?_
      refine a_iaddN (pc := 70) (a := 429) (b := _) rfl rfl dX7_took_70 ?_
      refine a_iald (pc := 71)  (by assumption) rfl (by omega) (by decide) dX7_took_71 ?_
      refine a_if_ne (pc := 72) (tgt := 84) dX7_took_72 (by decide) (fun c_72 => ?_) (fun c_72 => ?_)
      · refine a_iload (pc := 84) dX7_took_84 rfl ?_
        refine a_iconst (pc := 86) (v := 1) dX7_took_86 (by decide) ?_
        refine a_bipush (pc := 87) (v := 9) dX7_took_87 (by decide) ?_
        refine a_callS3 (pc := 89) cs_X7_94 ⟨(Nat.le_of_ble_eq_true rfl), (Nat.le_of_ble_eq_true rfl)⟩ (Nat.le_of_ble_eq_true rfl) dX7_took_89 rfl c_X7_isIn ?_
        rintro r u ⟨hr, rfl⟩
        have hr1 := isin_y hr (⟨nI_nlt (b := 1) (by omega) (by omega), nI_nlt (a := 9) (by omega) (by omega)⟩)
        subst hr1
        refine a_if_eq (pc := 92) (tgt := 100) dX7_took_92 (by decide) (fun c_92 => ?_) (fun c_92 => ?_)
        · exact absurd c_92 (by decide)
        · refine a_iload (pc := 95) dX7_took_95 rfl ?_
          refine a_goto (pc := 97) (tgt := 102) dX7_took_97 (by decide) ?_
          refine a_iret (pc := 102) rfl dX7_took_102 ?_
          unfold tkU at hQ
          rw [if_neg c_72] at hQ
          exact hQ
      · refine a_iload (pc := 75) dX7_took_75 rfl ?_
        refine a_iload_n (pc := 77) dX7_took_77 rfl rfl ?_
        refine a_iaddN (pc := 78) (a := _) (b := 1) rfl rfl dX7_took_78 ?_
        refine a_istore (pc := 79) (al' := [some (.ref _), some (.int _), some (.int _), some (.int _), some (.int _)]) dX7_took_79 (by decide) rfl rfl ?_
        refine a_goto (pc := 81) (tgt := 50) dX7_took_81 (by decide) ?_
        refine ih (j + 1) (by omega) (by omega) ?_
        unfold tkU at hQ
        rw [if_pos c_72] at hQ
        exact hQ

set_option maxHeartbeats 4000000 in
set_option maxRecDepth 100000 in
theorem l_X7_tookD {ν : Mem} {a w : Int32} {Q : Int32 → Mem → Prop} : ∀ j : Nat, j ≤ 9 → Q (tkD (fun k => ν 2 (429 + k)) j) ν → AW shM mX7_took 50 [some (.ref 0), some (.int a), some (.int w), some (.int (-1)), some (.int (nI j))] [] ν Q := by
  have m0 : shM[0]? = some (7, 18, [none, some 1, none, none, none, none, none, some 2, some 3, none, none, some 4, none, none, some 5, some 6, some 7, some 8]) := rfl
  have m1 : shM[1]? = some (100, 200, []) := rfl
  have m2 : shM[2]? = some (100, 1320, []) := rfl
  have m3 : shM[3]? = some (100, 1760, []) := rfl
  have m4 : shM[4]? = some (100, 4, []) := rfl
  have m5 : shM[5]? = some (100, 6, []) := rfl
  have m6 : shM[6]? = some (100, 6, []) := rfl
  have m7 : shM[7]? = some (100, 6, []) := rfl
  have m8 : shM[8]? = some (100, 6, []) := rfl
  intro j
  induction j with
  | zero =>
    intro hd hQ
    refine a_iload (pc := 50) dX7_took_50 rfl ?_
    refine a_iconst (pc := 52) (v := 1) dX7_took_52 (by decide) ?_
    refine a_bipush (pc := 53) (v := 9) dX7_took_53 (by decide) ?_
    refine a_callS3 (pc := 55) cs_X7_94 ⟨(Nat.le_of_ble_eq_true rfl), (Nat.le_of_ble_eq_true rfl)⟩ (Nat.le_of_ble_eq_true rfl) dX7_took_55 rfl c_X7_isIn ?_
    rintro r u ⟨hr, rfl⟩
    have hr1 := isin_n hr (by decide)
    subst hr1
    refine a_if_eq (pc := 58) (tgt := 84) dX7_took_58 (by decide) (fun c_58 => ?_) (fun c_58 => ?_)
    · refine a_iload (pc := 84) dX7_took_84 rfl ?_
      refine a_iconst (pc := 86) (v := 1) dX7_took_86 (by decide) ?_
      refine a_bipush (pc := 87) (v := 9) dX7_took_87 (by decide) ?_
      refine a_callS3 (pc := 89) cs_X7_94 ⟨(Nat.le_of_ble_eq_true rfl), (Nat.le_of_ble_eq_true rfl)⟩ (Nat.le_of_ble_eq_true rfl) dX7_took_89 rfl c_X7_isIn ?_
      rintro r u ⟨hr, rfl⟩
      have hr1 := isin_n hr (by decide)
      subst hr1
      refine a_if_eq (pc := 92) (tgt := 100) dX7_took_92 (by decide) (fun c_92 => ?_) (fun c_92 => ?_)
      · refine a_bipush (pc := 100) (v := -4) dX7_took_100 (by decide) ?_
        refine a_iret (pc := 102) rfl dX7_took_102 ?_
        exact hQ
      · exact absurd c_92 (by decide)
    · exact absurd c_58 (by decide)
  | succ j ih =>
    intro hd hQ
    refine a_iload (pc := 50) dX7_took_50 rfl ?_
    refine a_iconst (pc := 52) (v := 1) dX7_took_52 (by decide) ?_
    refine a_bipush (pc := 53) (v := 9) dX7_took_53 (by decide) ?_
    refine a_callS3 (pc := 55) cs_X7_94 ⟨(Nat.le_of_ble_eq_true rfl), (Nat.le_of_ble_eq_true rfl)⟩ (Nat.le_of_ble_eq_true rfl) dX7_took_55 rfl c_X7_isIn ?_
    rintro r u ⟨hr, rfl⟩
    have hr1 := isin_y hr (⟨nI_nlt (b := 1) (by omega) (by omega), nI_nlt (a := 9) (by omega) (by omega)⟩)
    subst hr1
    refine a_if_eq (pc := 58) (tgt := 84) dX7_took_58 (by decide) (fun c_58 => ?_) (fun c_58 => ?_)
    · exact absurd c_58 (by decide)
    · refine a_aload_n (pc := 61) dX7_took_61 rfl rfl ?_
      refine a_getr (pc := 62) fl_X7_13 (by assumption) (by decide) (by rfl) dX7_took_62 ?_
      refine a_sipush (pc := 65) (v := 429) dX7_took_65 (by decide) ?_
      refine a_iload (pc := 68) dX7_took_68 rfl ?_
      refine a_iaddN (pc := 70) (a := 429) (b := _) rfl rfl dX7_took_70 ?_
      refine a_iald (pc := 71)  (by assumption) rfl (by omega) (by decide) dX7_took_71 ?_
      refine a_if_ne (pc := 72) (tgt := 84) dX7_took_72 (by decide) (fun c_72 => ?_) (fun c_72 => ?_)
      · refine a_iload (pc := 84) dX7_took_84 rfl ?_
        refine a_iconst (pc := 86) (v := 1) dX7_took_86 (by decide) ?_
        refine a_bipush (pc := 87) (v := 9) dX7_took_87 (by decide) ?_
        refine a_callS3 (pc := 89) cs_X7_94 ⟨(Nat.le_of_ble_eq_true rfl), (Nat.le_of_ble_eq_true rfl)⟩ (Nat.le_of_ble_eq_true rfl) dX7_took_89 rfl c_X7_isIn ?_
        rintro r u ⟨hr, rfl⟩
        have hr1 := isin_y hr (⟨nI_nlt (b := 1) (by omega) (by omega), nI_nlt (a := 9) (by omega) (by omega)⟩)
        subst hr1
        refine a_if_eq (pc := 92) (tgt := 100) dX7_took_92 (by decide) (fun c_92 => ?_) (fun c_92 => ?_)
        · exact absurd c_92 (by decide)
        · refine a_iload (pc := 95) dX7_took_95 rfl ?_
          refine a_goto (pc := 97) (tgt := 102) dX7_took_97 (by decide) ?_
          refine a_iret (pc := 102) rfl dX7_took_102 ?_
          unfold tkD at hQ
          rw [if_neg c_72] at hQ
          exact hQ
      · refine a_iload (pc := 75) dX7_took_75 rfl ?_
        refine a_iload_n (pc := 77) dX7_took_77 rfl rfl ?_
        refine a_iadd (pc := 78) dX7_took_78 ?_
        refine a_top (y := nI j) (nI_m1 j) ?_
        refine a_istore (pc := 79) (al' := [some (.ref _), some (.int _), some (.int _), some (.int _), some (.int _)]) dX7_took_79 (by decide) rfl rfl ?_
        refine a_goto (pc := 81) (tgt := 50) dX7_took_81 (by decide) ?_
        refine ih (by omega) ?_
        unfold tkD at hQ
        rw [if_pos c_72] at hQ
        exact hQ

set_option maxHeartbeats 4000000 in
set_option maxRecDepth 100000 in
theorem c_X6_tookX {μ : Mem} {k w : Int32} (h : ¬ ((¬ k < 1 ∧ ¬ 9 < k) ∧ ¬ w < 0 ∧ ¬ 2 < w)) : Con shC mX6_took [.ref 0, .int k, .int w] μ (fun r u => r = -1 ∧ μ = u) := by
  have z0 : shC[0]? = some (6, 8, [some 1, none, some 2, some 53, some 104, some 106, none, none]) := rfl
  have hn := net_2
  obtain ⟨hn0, hn1, hn2, hnS⟩ := id hn
  refine Con.ofAW (al0 := [some (.ref 0), some (.int k), some (.int w), none, none]) (by decide) rfl (Nat.le_of_ble_eq_true rfl) rfl ?_
  refine a_iload_n (pc := 0) dX6_took_0 rfl rfl ?_
  refine a_iconst (pc := 1) (v := 1) dX6_took_1 (by decide) ?_
  refine a_icmp_lt (pc := 2) (tgt := 20) dX6_took_2 (by decide) (fun c_2 => ?_) (fun c_2 => ?_)
  · refine a_iconst (pc := 20) (v := -1) dX6_took_20 (by decide) ?_
    refine a_iret (pc := 21) rfl dX6_took_21 ?_
    exact ⟨rfl, rfl⟩
  · refine a_iload_n (pc := 5) dX6_took_5 rfl rfl ?_
    refine a_bipush (pc := 6) (v := 9) dX6_took_6 (by decide) ?_
    refine a_icmp_gt (pc := 8) (tgt := 20) dX6_took_8 (by decide) (fun c_8 => ?_) (fun c_8 => ?_)
    · refine a_iconst (pc := 20) (v := -1) dX6_took_20 (by decide) ?_
      refine a_iret (pc := 21) rfl dX6_took_21 ?_
      exact ⟨rfl, rfl⟩
    · refine a_iload_n (pc := 11) dX6_took_11 rfl rfl ?_
      refine a_if_lt (pc := 12) (tgt := 20) dX6_took_12 (by decide) (fun c_12 => ?_) (fun c_12 => ?_)
      · refine a_iconst (pc := 20) (v := -1) dX6_took_20 (by decide) ?_
        refine a_iret (pc := 21) rfl dX6_took_21 ?_
        exact ⟨rfl, rfl⟩
      · refine a_iload_n (pc := 15) dX6_took_15 rfl rfl ?_
        refine a_iconst (pc := 16) (v := 2) dX6_took_16 (by decide) ?_
        refine a_icmp_le (pc := 17) (tgt := 22) dX6_took_17 (by decide) (fun c_17 => ?_) (fun c_17 => ?_)
        · exfalso
          rw [← Int32.not_lt] at c_17
          exact h ⟨⟨c_2, c_8⟩, c_12, c_17⟩
        · refine a_iconst (pc := 20) (v := -1) dX6_took_20 (by decide) ?_
          refine a_iret (pc := 21) rfl dX6_took_21 ?_
          exact ⟨rfl, rfl⟩

set_option maxHeartbeats 4000000 in
set_option maxRecDepth 100000 in
theorem c_X7_tookX {ν : Mem} {k w : Int32} (h : ¬ ((¬ k < 1 ∧ ¬ 9 < k) ∧ ¬ w < 0 ∧ ¬ 2 < w)) : Con shM mX7_took [.ref 0, .int k, .int w] ν (fun r u => r = -1 ∧ ν = u) := by
  have m0 : shM[0]? = some (7, 18, [none, some 1, none, none, none, none, none, some 2, some 3, none, none, some 4, none, none, some 5, some 6, some 7, some 8]) := rfl
  have m1 : shM[1]? = some (100, 200, []) := rfl
  have m2 : shM[2]? = some (100, 1320, []) := rfl
  have m3 : shM[3]? = some (100, 1760, []) := rfl
  have m4 : shM[4]? = some (100, 4, []) := rfl
  have m5 : shM[5]? = some (100, 6, []) := rfl
  have m6 : shM[6]? = some (100, 6, []) := rfl
  have m7 : shM[7]? = some (100, 6, []) := rfl
  have m8 : shM[8]? = some (100, 6, []) := rfl
  refine Con.ofAW (al0 := [some (.ref 0), some (.int k), some (.int w), none, none]) (by decide) rfl (Nat.le_of_ble_eq_true rfl) rfl ?_
  refine a_iload_n (pc := 0) dX7_took_0 rfl rfl ?_
  refine a_iconst (pc := 1) (v := 1) dX7_took_1 (by decide) ?_
  refine a_bipush (pc := 2) (v := 9) dX7_took_2 (by decide) ?_
  refine a_callS3 (pc := 4) cs_X7_94 ⟨(Nat.le_of_ble_eq_true rfl), (Nat.le_of_ble_eq_true rfl)⟩ (Nat.le_of_ble_eq_true rfl) dX7_took_4 rfl c_X7_isIn ?_
  rintro r1 u ⟨hr1, rfl⟩
  refine a_if_eq (pc := 7) (tgt := 19) dX7_took_7 (by decide) (fun c_7 => ?_) (fun c_7 => ?_)
  · refine a_iconst (pc := 19) (v := -1) dX7_took_19 (by decide) ?_
    refine a_iret (pc := 20) rfl dX7_took_20 ?_
    exact ⟨rfl, rfl⟩
  · refine a_iload_n (pc := 10) dX7_took_10 rfl rfl ?_
    refine a_iconst (pc := 11) (v := 0) dX7_took_11 (by decide) ?_
    refine a_iconst (pc := 12) (v := 2) dX7_took_12 (by decide) ?_
    refine a_callS3 (pc := 13) cs_X7_94 ⟨(Nat.le_of_ble_eq_true rfl), (Nat.le_of_ble_eq_true rfl)⟩ (Nat.le_of_ble_eq_true rfl) dX7_took_13 rfl c_X7_isIn ?_
    rintro r2 u ⟨hr2, rfl⟩
    refine a_if_ne (pc := 16) (tgt := 21) dX7_took_16 (by decide) (fun c_16 => ?_) (fun c_16 => ?_)
    · exfalso; simp_all [-Int32.not_lt, -Int32.not_le]
    · refine a_iconst (pc := 19) (v := -1) dX7_took_19 (by decide) ?_
      refine a_iret (pc := 20) rfl dX7_took_20 ?_
      exact ⟨rfl, rfl⟩

set_option maxHeartbeats 4000000 in
set_option maxRecDepth 100000 in
theorem c_X6_took0 {μ : Mem} {B k : Nat} (hT : TKc μ 2 B) (hB : B < 2 ^ 31) (hk1 : 1 ≤ k) (hk2 : k ≤ 9) : Con shC mX6_took [.ref 0, .int (nI k), .int 0] μ (fun r u => r = μ 3 k ∧ μ = u) := by
  have z0 : shC[0]? = some (6, 8, [some 1, none, some 2, some 53, some 104, some 106, none, none]) := rfl
  have hn := net_2
  obtain ⟨hn0, hn1, hn2, hnS⟩ := id hn
  refine Con.ofAW (al0 := [some (.ref 0), some (.int (nI k)), some (.int 0), none, none]) (by decide) rfl (Nat.le_of_ble_eq_true rfl) rfl ?_
  refine a_iload_n (pc := 0) dX6_took_0 rfl rfl ?_
  refine a_iconst (pc := 1) (v := 1) dX6_took_1 (by decide) ?_
  refine a_icmp_lt (pc := 2) (tgt := 20) dX6_took_2 (by decide) (fun c_2 => ?_) (fun c_2 => ?_)
  · exact absurd c_2 (nI_nlt (b := 1) (by omega) (by omega))
  · refine a_iload_n (pc := 5) dX6_took_5 rfl rfl ?_
    refine a_bipush (pc := 6) (v := 9) dX6_took_6 (by decide) ?_
    refine a_icmp_gt (pc := 8) (tgt := 20) dX6_took_8 (by decide) (fun c_8 => ?_) (fun c_8 => ?_)
    · exact absurd c_8 (nI_nlt (a := 9) (by omega) (by omega))
    · refine a_iload_n (pc := 11) dX6_took_11 rfl rfl ?_
      refine a_if_lt (pc := 12) (tgt := 20) dX6_took_12 (by decide) (fun c_12 => ?_) (fun c_12 => ?_)
      · exact absurd c_12 (by decide)
      · refine a_iload_n (pc := 15) dX6_took_15 rfl rfl ?_
        refine a_iconst (pc := 16) (v := 2) dX6_took_16 (by decide) ?_
        refine a_icmp_le (pc := 17) (tgt := 22) dX6_took_17 (by decide) (fun c_17 => ?_) (fun c_17 => ?_)
        · refine a_iload_n (pc := 22) dX6_took_22 rfl rfl ?_
          refine a_if_ne (pc := 23) (tgt := 36) dX6_took_23 (by decide) (fun c_23 => ?_) (fun c_23 => ?_)
          · exact absurd c_23 (by decide)
          · refine a_aload_n (pc := 26) dX6_took_26 rfl rfl ?_
            refine a_getr (pc := 27) fl_X6_16 (by assumption) (by decide) (by rfl) dX6_took_27 ?_
            refine a_getr (pc := 30) fl_X6_194 (by assumption) (by decide) (by rfl) dX6_took_30 ?_
            refine a_iload_n (pc := 33) dX6_took_33 rfl rfl ?_
            refine a_iald (pc := 34)  (by assumption) rfl (by omega) (by decide) dX6_took_34 ?_
            refine a_iret (pc := 35) rfl dX6_took_35 ?_
            exact ⟨rfl, rfl⟩
        · exact absurd c_17 (by decide)

set_option maxHeartbeats 4000000 in
set_option maxRecDepth 100000 in
theorem c_X7_took0 {ν : Mem} {k : Nat} (hk1 : 1 ≤ k) (hk2 : k ≤ 9) : Con shM mX7_took [.ref 0, .int (nI k), .int 0] ν (fun r u => r = ν 2 (429 + k) ∧ ν = u) := by
  have m0 : shM[0]? = some (7, 18, [none, some 1, none, none, none, none, none, some 2, some 3, none, none, some 4, none, none, some 5, some 6, some 7, some 8]) := rfl
  have m1 : shM[1]? = some (100, 200, []) := rfl
  have m2 : shM[2]? = some (100, 1320, []) := rfl
  have m3 : shM[3]? = some (100, 1760, []) := rfl
  have m4 : shM[4]? = some (100, 4, []) := rfl
  have m5 : shM[5]? = some (100, 6, []) := rfl
  have m6 : shM[6]? = some (100, 6, []) := rfl
  have m7 : shM[7]? = some (100, 6, []) := rfl
  have m8 : shM[8]? = some (100, 6, []) := rfl
  refine Con.ofAW (al0 := [some (.ref 0), some (.int (nI k)), some (.int 0), none, none]) (by decide) rfl (Nat.le_of_ble_eq_true rfl) rfl ?_
  refine a_iload_n (pc := 0) dX7_took_0 rfl rfl ?_
  refine a_iconst (pc := 1) (v := 1) dX7_took_1 (by decide) ?_
  refine a_bipush (pc := 2) (v := 9) dX7_took_2 (by decide) ?_
  refine a_callS3 (pc := 4) cs_X7_94 ⟨(Nat.le_of_ble_eq_true rfl), (Nat.le_of_ble_eq_true rfl)⟩ (Nat.le_of_ble_eq_true rfl) dX7_took_4 rfl c_X7_isIn ?_
  rintro r u ⟨hr, rfl⟩
  have hr1 := isin_y hr (⟨nI_nlt (b := 1) (by omega) (by omega), nI_nlt (a := 9) (by omega) (by omega)⟩)
  subst hr1
  refine a_if_eq (pc := 7) (tgt := 19) dX7_took_7 (by decide) (fun c_7 => ?_) (fun c_7 => ?_)
  · exact absurd c_7 (by decide)
  · refine a_iload_n (pc := 10) dX7_took_10 rfl rfl ?_
    refine a_iconst (pc := 11) (v := 0) dX7_took_11 (by decide) ?_
    refine a_iconst (pc := 12) (v := 2) dX7_took_12 (by decide) ?_
    refine a_callS3 (pc := 13) cs_X7_94 ⟨(Nat.le_of_ble_eq_true rfl), (Nat.le_of_ble_eq_true rfl)⟩ (Nat.le_of_ble_eq_true rfl) dX7_took_13 rfl c_X7_isIn ?_
    rintro r u ⟨hr, rfl⟩
    have hr1 := isin_y hr (by decide)
    subst hr1
    refine a_if_ne (pc := 16) (tgt := 21) dX7_took_16 (by decide) (fun c_16 => ?_) (fun c_16 => ?_)
    · refine a_iload_n (pc := 21) dX7_took_21 rfl rfl ?_
      refine a_if_ne (pc := 22) (tgt := 36) dX7_took_22 (by decide) (fun c_22 => ?_) (fun c_22 => ?_)
      · exact absurd c_22 (by decide)
      · refine a_aload_n (pc := 25) dX7_took_25 rfl rfl ?_
        refine a_getr (pc := 26) fl_X7_13 (by assumption) (by decide) (by rfl) dX7_took_26 ?_
        refine a_sipush (pc := 29) (v := 429) dX7_took_29 (by decide) ?_
        refine a_iload_n (pc := 32) dX7_took_32 rfl rfl ?_
        refine a_iaddN (pc := 33) (a := 429) (b := _) rfl rfl dX7_took_33 ?_
        refine a_iald (pc := 34)  (by assumption) rfl (by omega) (by decide) dX7_took_34 ?_
        refine a_iret (pc := 35) rfl dX7_took_35 ?_
        exact ⟨rfl, rfl⟩
    · exact absurd c_16 (by decide)

set_option maxHeartbeats 4000000 in
set_option maxRecDepth 100000 in
theorem c_X6_took1 {μ : Mem} {B k : Nat} (hT : TKc μ 2 B) (hB : B < 2 ^ 31) (hk1 : 1 ≤ k) (hk2 : k ≤ 9) : Con shC mX6_took [.ref 0, .int (nI k), .int 1] μ (fun r u => r = tkU (μ 3) (10 - k) k ∧ μ = u) := by
  have z0 : shC[0]? = some (6, 8, [some 1, none, some 2, some 53, some 104, some 106, none, none]) := rfl
  have hn := net_2
  obtain ⟨hn0, hn1, hn2, hnS⟩ := id hn
  refine Con.ofAW (al0 := [some (.ref 0), some (.int (nI k)), some (.int 1), none, none]) (by decide) rfl (Nat.le_of_ble_eq_true rfl) rfl ?_
  refine a_iload_n (pc := 0) dX6_took_0 rfl rfl ?_
  refine a_iconst (pc := 1) (v := 1) dX6_took_1 (by decide) ?_
  refine a_icmp_lt (pc := 2) (tgt := 20) dX6_took_2 (by decide) (fun c_2 => ?_) (fun c_2 => ?_)
  · exact absurd c_2 (nI_nlt (b := 1) (by omega) (by omega))
  · refine a_iload_n (pc := 5) dX6_took_5 rfl rfl ?_
    refine a_bipush (pc := 6) (v := 9) dX6_took_6 (by decide) ?_
    refine a_icmp_gt (pc := 8) (tgt := 20) dX6_took_8 (by decide) (fun c_8 => ?_) (fun c_8 => ?_)
    · exact absurd c_8 (nI_nlt (a := 9) (by omega) (by omega))
    · refine a_iload_n (pc := 11) dX6_took_11 rfl rfl ?_
      refine a_if_lt (pc := 12) (tgt := 20) dX6_took_12 (by decide) (fun c_12 => ?_) (fun c_12 => ?_)
      · exact absurd c_12 (by decide)
      · refine a_iload_n (pc := 15) dX6_took_15 rfl rfl ?_
        refine a_iconst (pc := 16) (v := 2) dX6_took_16 (by decide) ?_
        refine a_icmp_le (pc := 17) (tgt := 22) dX6_took_17 (by decide) (fun c_17 => ?_) (fun c_17 => ?_)
        · refine a_iload_n (pc := 22) dX6_took_22 rfl rfl ?_
          refine a_if_ne (pc := 23) (tgt := 36) dX6_took_23 (by decide) (fun c_23 => ?_) (fun c_23 => ?_)
          · refine a_iload_n (pc := 36) dX6_took_36 rfl rfl ?_
            refine a_iconst (pc := 37) (v := 1) dX6_took_37 (by decide) ?_
            refine a_icmp_ne (pc := 38) (tgt := 45) dX6_took_38 (by decide) (fun c_38 => ?_) (fun c_38 => ?_)
            · exact absurd c_38 (by decide)
            · refine a_iconst (pc := 41) (v := 1) dX6_took_41 (by decide) ?_
              refine a_goto (pc := 42) (tgt := 46) dX6_took_42 (by decide) ?_
              refine a_istore_n (pc := 46) (al' := [some (.ref _), some (.int _), some (.int _), some (.int _), none]) dX6_took_46 rfl (by decide) rfl rfl ?_
              refine a_iload_n (pc := 47) dX6_took_47 rfl rfl ?_
              refine a_istore (pc := 48) (al' := [some (.ref _), some (.int _), some (.int _), some (.int _), some (.int _)]) dX6_took_48 (by decide) rfl rfl ?_
              exact l_X6_tookU hT hB (10 - k) k (by omega) hk1 ⟨rfl, rfl⟩
          · exact absurd c_23 (by decide)
        · exact absurd c_17 (by decide)

set_option maxHeartbeats 4000000 in
set_option maxRecDepth 100000 in
theorem c_X7_took1 {ν : Mem} {k : Nat} (hk1 : 1 ≤ k) (hk2 : k ≤ 9) : Con shM mX7_took [.ref 0, .int (nI k), .int 1] ν (fun r u => r = tkU (fun k => ν 2 (429 + k)) (10 - k) k ∧ ν = u) := by
  have m0 : shM[0]? = some (7, 18, [none, some 1, none, none, none, none, none, some 2, some 3, none, none, some 4, none, none, some 5, some 6, some 7, some 8]) := rfl
  have m1 : shM[1]? = some (100, 200, []) := rfl
  have m2 : shM[2]? = some (100, 1320, []) := rfl
  have m3 : shM[3]? = some (100, 1760, []) := rfl
  have m4 : shM[4]? = some (100, 4, []) := rfl
  have m5 : shM[5]? = some (100, 6, []) := rfl
  have m6 : shM[6]? = some (100, 6, []) := rfl
  have m7 : shM[7]? = some (100, 6, []) := rfl
  have m8 : shM[8]? = some (100, 6, []) := rfl
  refine Con.ofAW (al0 := [some (.ref 0), some (.int (nI k)), some (.int 1), none, none]) (by decide) rfl (Nat.le_of_ble_eq_true rfl) rfl ?_
  refine a_iload_n (pc := 0) dX7_took_0 rfl rfl ?_
  refine a_iconst (pc := 1) (v := 1) dX7_took_1 (by decide) ?_
  refine a_bipush (pc := 2) (v := 9) dX7_took_2 (by decide) ?_
  refine a_callS3 (pc := 4) cs_X7_94 ⟨(Nat.le_of_ble_eq_true rfl), (Nat.le_of_ble_eq_true rfl)⟩ (Nat.le_of_ble_eq_true rfl) dX7_took_4 rfl c_X7_isIn ?_
  rintro r u ⟨hr, rfl⟩
  have hr1 := isin_y hr (⟨nI_nlt (b := 1) (by omega) (by omega), nI_nlt (a := 9) (by omega) (by omega)⟩)
  subst hr1
  refine a_if_eq (pc := 7) (tgt := 19) dX7_took_7 (by decide) (fun c_7 => ?_) (fun c_7 => ?_)
  · exact absurd c_7 (by decide)
  · refine a_iload_n (pc := 10) dX7_took_10 rfl rfl ?_
    refine a_iconst (pc := 11) (v := 0) dX7_took_11 (by decide) ?_
    refine a_iconst (pc := 12) (v := 2) dX7_took_12 (by decide) ?_
    refine a_callS3 (pc := 13) cs_X7_94 ⟨(Nat.le_of_ble_eq_true rfl), (Nat.le_of_ble_eq_true rfl)⟩ (Nat.le_of_ble_eq_true rfl) dX7_took_13 rfl c_X7_isIn ?_
    rintro r u ⟨hr, rfl⟩
    have hr1 := isin_y hr (by decide)
    subst hr1
    refine a_if_ne (pc := 16) (tgt := 21) dX7_took_16 (by decide) (fun c_16 => ?_) (fun c_16 => ?_)
    · refine a_iload_n (pc := 21) dX7_took_21 rfl rfl ?_
      refine a_if_ne (pc := 22) (tgt := 36) dX7_took_22 (by decide) (fun c_22 => ?_) (fun c_22 => ?_)
      · refine a_iload_n (pc := 36) dX7_took_36 rfl rfl ?_
        refine a_iconst (pc := 37) (v := 1) dX7_took_37 (by decide) ?_
        refine a_icmp_ne (pc := 38) (tgt := 45) dX7_took_38 (by decide) (fun c_38 => ?_) (fun c_38 => ?_)
        · exact absurd c_38 (by decide)
        · refine a_iconst (pc := 41) (v := 1) dX7_took_41 (by decide) ?_
          refine a_goto (pc := 42) (tgt := 46) dX7_took_42 (by decide) ?_
          refine a_istore_n (pc := 46) (al' := [some (.ref _), some (.int _), some (.int _), some (.int _), none]) dX7_took_46 rfl (by decide) rfl rfl ?_
          refine a_iload_n (pc := 47) dX7_took_47 rfl rfl ?_
          refine a_istore (pc := 48) (al' := [some (.ref _), some (.int _), some (.int _), some (.int _), some (.int _)]) dX7_took_48 (by decide) rfl rfl ?_
          exact l_X7_tookU (10 - k) k (by omega) hk1 ⟨rfl, rfl⟩
      · exact absurd c_22 (by decide)
    · exact absurd c_16 (by decide)

set_option maxHeartbeats 4000000 in
set_option maxRecDepth 100000 in
theorem c_X6_took2 {μ : Mem} {B k : Nat} (hT : TKc μ 2 B) (hB : B < 2 ^ 31) (hk1 : 1 ≤ k) (hk2 : k ≤ 9) : Con shC mX6_took [.ref 0, .int (nI k), .int 2] μ (fun r u => r = tkD (μ 3) k ∧ μ = u) := by
  have z0 : shC[0]? = some (6, 8, [some 1, none, some 2, some 53, some 104, some 106, none, none]) := rfl
  have hn := net_2
  obtain ⟨hn0, hn1, hn2, hnS⟩ := id hn
  refine Con.ofAW (al0 := [some (.ref 0), some (.int (nI k)), some (.int 2), none, none]) (by decide) rfl (Nat.le_of_ble_eq_true rfl) rfl ?_
  refine a_iload_n (pc := 0) dX6_took_0 rfl rfl ?_
  refine a_iconst (pc := 1) (v := 1) dX6_took_1 (by decide) ?_
  refine a_icmp_lt (pc := 2) (tgt := 20) dX6_took_2 (by decide) (fun c_2 => ?_) (fun c_2 => ?_)
  · exact absurd c_2 (nI_nlt (b := 1) (by omega) (by omega))
  · refine a_iload_n (pc := 5) dX6_took_5 rfl rfl ?_
    refine a_bipush (pc := 6) (v := 9) dX6_took_6 (by decide) ?_
    refine a_icmp_gt (pc := 8) (tgt := 20) dX6_took_8 (by decide) (fun c_8 => ?_) (fun c_8 => ?_)
    · exact absurd c_8 (nI_nlt (a := 9) (by omega) (by omega))
    · refine a_iload_n (pc := 11) dX6_took_11 rfl rfl ?_
      refine a_if_lt (pc := 12) (tgt := 20) dX6_took_12 (by decide) (fun c_12 => ?_) (fun c_12 => ?_)
      · exact absurd c_12 (by decide)
      · refine a_iload_n (pc := 15) dX6_took_15 rfl rfl ?_
        refine a_iconst (pc := 16) (v := 2) dX6_took_16 (by decide) ?_
        refine a_icmp_le (pc := 17) (tgt := 22) dX6_took_17 (by decide) (fun c_17 => ?_) (fun c_17 => ?_)
        · refine a_iload_n (pc := 22) dX6_took_22 rfl rfl ?_
          refine a_if_ne (pc := 23) (tgt := 36) dX6_took_23 (by decide) (fun c_23 => ?_) (fun c_23 => ?_)
          · refine a_iload_n (pc := 36) dX6_took_36 rfl rfl ?_
            refine a_iconst (pc := 37) (v := 1) dX6_took_37 (by decide) ?_
            refine a_icmp_ne (pc := 38) (tgt := 45) dX6_took_38 (by decide) (fun c_38 => ?_) (fun c_38 => ?_)
            · refine a_iconst (pc := 45) (v := -1) dX6_took_45 (by decide) ?_
              refine a_istore_n (pc := 46) (al' := [some (.ref _), some (.int _), some (.int _), some (.int _), none]) dX6_took_46 rfl (by decide) rfl rfl ?_
              refine a_iload_n (pc := 47) dX6_took_47 rfl rfl ?_
              refine a_istore (pc := 48) (al' := [some (.ref _), some (.int _), some (.int _), some (.int _), some (.int _)]) dX6_took_48 (by decide) rfl rfl ?_
              exact l_X6_tookD hT hB k hk2 ⟨rfl, rfl⟩
            · exact absurd c_38 (by decide)
          · exact absurd c_23 (by decide)
        · exact absurd c_17 (by decide)

set_option maxHeartbeats 4000000 in
set_option maxRecDepth 100000 in
theorem c_X7_took2 {ν : Mem} {k : Nat} (hk1 : 1 ≤ k) (hk2 : k ≤ 9) : Con shM mX7_took [.ref 0, .int (nI k), .int 2] ν (fun r u => r = tkD (fun k => ν 2 (429 + k)) k ∧ ν = u) := by
  have m0 : shM[0]? = some (7, 18, [none, some 1, none, none, none, none, none, some 2, some 3, none, none, some 4, none, none, some 5, some 6, some 7, some 8]) := rfl
  have m1 : shM[1]? = some (100, 200, []) := rfl
  have m2 : shM[2]? = some (100, 1320, []) := rfl
  have m3 : shM[3]? = some (100, 1760, []) := rfl
  have m4 : shM[4]? = some (100, 4, []) := rfl
  have m5 : shM[5]? = some (100, 6, []) := rfl
  have m6 : shM[6]? = some (100, 6, []) := rfl
  have m7 : shM[7]? = some (100, 6, []) := rfl
  have m8 : shM[8]? = some (100, 6, []) := rfl
  refine Con.ofAW (al0 := [some (.ref 0), some (.int (nI k)), some (.int 2), none, none]) (by decide) rfl (Nat.le_of_ble_eq_true rfl) rfl ?_
  refine a_iload_n (pc := 0) dX7_took_0 rfl rfl ?_
  refine a_iconst (pc := 1) (v := 1) dX7_took_1 (by decide) ?_
  refine a_bipush (pc := 2) (v := 9) dX7_took_2 (by decide) ?_
  refine a_callS3 (pc := 4) cs_X7_94 ⟨(Nat.le_of_ble_eq_true rfl), (Nat.le_of_ble_eq_true rfl)⟩ (Nat.le_of_ble_eq_true rfl) dX7_took_4 rfl c_X7_isIn ?_
  rintro r u ⟨hr, rfl⟩
  have hr1 := isin_y hr (⟨nI_nlt (b := 1) (by omega) (by omega), nI_nlt (a := 9) (by omega) (by omega)⟩)
  subst hr1
  refine a_if_eq (pc := 7) (tgt := 19) dX7_took_7 (by decide) (fun c_7 => ?_) (fun c_7 => ?_)
  · exact absurd c_7 (by decide)
  · refine a_iload_n (pc := 10) dX7_took_10 rfl rfl ?_
    refine a_iconst (pc := 11) (v := 0) dX7_took_11 (by decide) ?_
    refine a_iconst (pc := 12) (v := 2) dX7_took_12 (by decide) ?_
    refine a_callS3 (pc := 13) cs_X7_94 ⟨(Nat.le_of_ble_eq_true rfl), (Nat.le_of_ble_eq_true rfl)⟩ (Nat.le_of_ble_eq_true rfl) dX7_took_13 rfl c_X7_isIn ?_
    rintro r u ⟨hr, rfl⟩
    have hr1 := isin_y hr (by decide)
    subst hr1
    refine a_if_ne (pc := 16) (tgt := 21) dX7_took_16 (by decide) (fun c_16 => ?_) (fun c_16 => ?_)
    · refine a_iload_n (pc := 21) dX7_took_21 rfl rfl ?_
      refine a_if_ne (pc := 22) (tgt := 36) dX7_took_22 (by decide) (fun c_22 => ?_) (fun c_22 => ?_)
      · refine a_iload_n (pc := 36) dX7_took_36 rfl rfl ?_
        refine a_iconst (pc := 37) (v := 1) dX7_took_37 (by decide) ?_
        refine a_icmp_ne (pc := 38) (tgt := 45) dX7_took_38 (by decide) (fun c_38 => ?_) (fun c_38 => ?_)
        · refine a_iconst (pc := 45) (v := -1) dX7_took_45 (by decide) ?_
          refine a_istore_n (pc := 46) (al' := [some (.ref _), some (.int _), some (.int _), some (.int _), none]) dX7_took_46 rfl (by decide) rfl rfl ?_
          refine a_iload_n (pc := 47) dX7_took_47 rfl rfl ?_
          refine a_istore (pc := 48) (al' := [some (.ref _), some (.int _), some (.int _), some (.int _), some (.int _)]) dX7_took_48 (by decide) rfl rfl ?_
          exact l_X7_tookD k hk2 ⟨rfl, rfl⟩
        · exact absurd c_38 (by decide)
      · exact absurd c_22 (by decide)
    · exact absurd c_16 (by decide)

theorem api_took {μ ν : Mem} {D : Nat} (k w : Int32) (hG : GR μ ν D) : API mX6_took mX7_took [.int k, .int w] μ ν D := by
  obtain ⟨N, t, hNR, ht, hP, hT, hB⟩ := id hG
  obtain ⟨⟨c0, c0', hN2, hN6, ⟨cl, cl1, cl2, cl3⟩, ⟨cm, cm1, cm2, cm3⟩, c3, ⟨cr, cr1, cr2, cr3⟩⟩, ⟨z, z1, z2, z3⟩, h6, h6', h7, hTK, ⟨hm, hH, hsym⟩, hR⟩ := id hNR.1
  simp only [Nat.zero_add] at z2 h6' h7 hH hR
  have hTK' : ∀ k, 1 ≤ k → k ≤ 9 → μ 3 k = ν 2 (429 + k) := fun k k1 k2 => by simpa using hTK k k1 k2
  by_cases hs : (¬ k < 1 ∧ ¬ 9 < k) ∧ ¬ w < 0 ∧ ¬ 2 < w
  · obtain ⟨⟨hk1, hk2⟩, hw⟩ := hs
    have hk0 : ¬ k < 0 := fun h => hk1 (Int32.lt_trans h (by decide))
    obtain ⟨k, hk, rfl⟩ := in_of (K := 9) (n := 9) rfl ⟨hk0, hk2⟩
    have hk1 : 1 ≤ k := Nat.le_of_not_lt fun h => hk1 (nI_lt (b := 1) h (by omega))
    obtain ⟨j, hj, rfl⟩ := in_of (K := 2) (n := 2) rfl hw
    rcases (show j = 0 ∨ j = 1 ∨ j = 2 by omega) with rfl | rfl | rfl
    · exact API.eq hG (c_X6_took0 hNR.2 (by omega) hk1 hk) (c_X7_took0 hk1 hk) (hTK' k hk1 hk)
    · exact API.eq hG (c_X6_took1 hNR.2 (by omega) hk1 hk) (c_X7_took1 hk1 hk) (tkU_congr hTK' _ k (by omega) hk1)
    · exact API.eq hG (c_X6_took2 hNR.2 (by omega) hk1 hk) (c_X7_took2 hk1 hk) (tkD_congr hTK' k hk)
  · exact API.same hG (c_X6_tookX hs) (c_X7_tookX hs)

