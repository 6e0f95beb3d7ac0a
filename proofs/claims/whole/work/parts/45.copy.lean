/-! Station and Net: copyFrom, clear -/
/-- the station o of u is as the station q of μ -/
def SCP (u : Mem) (o : Nat) (μ : Mem) (q : Nat) : Prop := (∀ k, k < 15 → u o k = μ q k) ∧ u (o + 1) 0 = μ (q + 1) 0 ∧ (∀ k, k < 6 → u (o + 2) k = μ (q + 2) k) ∧ (∀ k, k < 6 → u (o + 3) k = μ (q + 3) k) ∧ u (o + 4) 0 = μ (q + 4) 0 ∧ (∀ k, k < 24 → u (o + 5) k = μ (q + 5) k) ∧ (∀ k, k < 4 → u (o + 6) k = μ (q + 6) k)
theorem case15 {k : Nat} (h : k < 15) : k = 0 ∨ k = 1 ∨ k = 2 ∨ k = 3 ∨ k = 4 ∨ k = 5 ∨ k = 6 ∨ k = 7 ∨ k = 8 ∨ k = 9 ∨ k = 10 ∨ k = 11 ∨ k = 12 ∨ k = 13 ∨ k = 14 := by omega
theorem case4 {k : Nat} (h : k < 4) : k = 0 ∨ k = 1 ∨ k = 2 ∨ k = 3 := by omega
theorem bool_nar {v : Int32} (h : v = 0 ∨ v = 1) : narrow .boolean (.int v) = .int v ∧ fits .boolean (.int v) = true := by
  rcases h with rfl | rfl <;> exact ⟨rfl, rfl⟩
set_option maxHeartbeats 4000000 in
set_option maxRecDepth 100000 in
theorem c_X5_copyFrom {μ : Mem} {o q : Nat} (h : isSt o) (hq : isSt q) (hd : q + 7 < o ∨ o + 7 < q) (hb : μ q 10 = 0 ∨ μ q 10 = 1) : Con shC mX5_copyFrom [.ref o, .ref q] μ (fun _ u => SCP u o μ q ∧ ∀ x, (x < o ∨ o + 6 < x) → u x = μ x) := by
  have ws := h
  have w0 : shC[o]? = _ := ws.1
  have w1 : shC[o + 1]? = some (0, 3, [none, some (o + 2), some (o + 3)]) := ws.2.1.1
  have w2 : shC[o + 2]? = some (100, 6, []) := ws.2.1.2.1
  have w3 : shC[o + 3]? = some (100, 6, []) := ws.2.1.2.2
  have w4 : shC[o + 4]? = some (1, 2, [none, some (o + 5)]) := ws.2.2.1.1
  have w5 : shC[o + 5]? = some (100, 24, []) := ws.2.2.1.2
  have w6 : shC[o + 6]? = some (4, 4, [none, none, none, none]) := ws.2.2.2.1
  have w7 : shC[o + 7]? = some (4, 4, [none, none, none, none]) := ws.2.2.2.2
  have vs := hq
  have v0 : shC[q]? = _ := vs.1
  have v1 : shC[q + 1]? = some (0, 3, [none, some (q + 2), some (q + 3)]) := vs.2.1.1
  have v2 : shC[q + 2]? = some (100, 6, []) := vs.2.1.2.1
  have v3 : shC[q + 3]? = some (100, 6, []) := vs.2.1.2.2
  have v4 : shC[q + 4]? = some (1, 2, [none, some (q + 5)]) := vs.2.2.1.1
  have v5 : shC[q + 5]? = some (100, 24, []) := vs.2.2.1.2
  have v6 : shC[q + 6]? = some (4, 4, [none, none, none, none]) := vs.2.2.2.1
  have v7 : shC[q + 7]? = some (4, 4, [none, none, none, none]) := vs.2.2.2.2
  have n0 : q ≠ o := by omega
  refine Con.ofAW (al0 := [some (.ref o), some (.ref q)]) (by decide) rfl (Nat.le_of_ble_eq_true rfl) rfl ?_
  refine a_aload_n (pc := 0) dX5_copyFrom_0 rfl rfl ?_
  refine a_aload_n (pc := 1) dX5_copyFrom_1 rfl rfl ?_
  refine a_geti (pc := 2) fl_X5_35 (by assumption) (by decide) (by rfl) dX5_copyFrom_2 ?_
  refine a_top (y := (μ q 0)) (by first | rfl | (simp only [up2_ne n0])) ?_
  refine a_puti (pc := 5) fp_X5_35 (by assumption) (by decide) (by rfl) dX5_copyFrom_5 ?_
  refine a_aload_n (pc := 8) dX5_copyFrom_8 rfl rfl ?_
  refine a_aload_n (pc := 9) dX5_copyFrom_9 rfl rfl ?_
  refine a_geti (pc := 10) fl_X5_39 (by assumption) (by decide) (by rfl) dX5_copyFrom_10 ?_
  refine a_top (y := (μ q 1)) (by first | rfl | (simp only [up2_ne n0])) ?_
  refine a_puti (pc := 13) fp_X5_39 (by assumption) (by decide) (by rfl) dX5_copyFrom_13 ?_
  refine a_aload_n (pc := 16) dX5_copyFrom_16 rfl rfl ?_
  refine a_aload_n (pc := 17) dX5_copyFrom_17 rfl rfl ?_
  refine a_geti (pc := 18) fl_X5_42 (by assumption) (by decide) (by rfl) dX5_copyFrom_18 ?_
  refine a_top (y := (μ q 2)) (by first | rfl | (simp only [up2_ne n0])) ?_
  refine a_puti (pc := 21) fp_X5_42 (by assumption) (by decide) (by rfl) dX5_copyFrom_21 ?_
  refine a_aload_n (pc := 24) dX5_copyFrom_24 rfl rfl ?_
  refine a_aload_n (pc := 25) dX5_copyFrom_25 rfl rfl ?_
  refine a_geti (pc := 26) fl_X5_45 (by assumption) (by decide) (by rfl) dX5_copyFrom_26 ?_
  refine a_top (y := (μ q 3)) (by first | rfl | (simp only [up2_ne n0])) ?_
  refine a_puti (pc := 29) fp_X5_45 (by assumption) (by decide) (by rfl) dX5_copyFrom_29 ?_
  refine a_aload_n (pc := 32) dX5_copyFrom_32 rfl rfl ?_
  refine a_aload_n (pc := 33) dX5_copyFrom_33 rfl rfl ?_
  refine a_geti (pc := 34) fl_X5_48 (by assumption) (by decide) (by rfl) dX5_copyFrom_34 ?_
  refine a_top (y := (μ q 4)) (by first | rfl | (simp only [up2_ne n0])) ?_
  refine a_puti (pc := 37) fp_X5_48 (by assumption) (by decide) (by rfl) dX5_copyFrom_37 ?_
  refine a_aload_n (pc := 40) dX5_copyFrom_40 rfl rfl ?_
  refine a_aload_n (pc := 41) dX5_copyFrom_41 rfl rfl ?_
  refine a_geti (pc := 42) fl_X5_51 (by assumption) (by decide) (by rfl) dX5_copyFrom_42 ?_
  refine a_top (y := (μ q 5)) (by first | rfl | (simp only [up2_ne n0])) ?_
  refine a_puti (pc := 45) fp_X5_51 (by assumption) (by decide) (by rfl) dX5_copyFrom_45 ?_
  refine a_aload_n (pc := 48) dX5_copyFrom_48 rfl rfl ?_
  refine a_aload_n (pc := 49) dX5_copyFrom_49 rfl rfl ?_
  refine a_geti (pc := 50) fl_X5_54 (by assumption) (by decide) (by rfl) dX5_copyFrom_50 ?_
  refine a_top (y := (μ q 6)) (by first | rfl | (simp only [up2_ne n0])) ?_
  refine a_puti (pc := 53) fp_X5_54 (by assumption) (by decide) (by rfl) dX5_copyFrom_53 ?_
  refine a_aload_n (pc := 56) dX5_copyFrom_56 rfl rfl ?_
  refine a_aload_n (pc := 57) dX5_copyFrom_57 rfl rfl ?_
  refine a_geti (pc := 58) fl_X5_57 (by assumption) (by decide) (by rfl) dX5_copyFrom_58 ?_
  refine a_top (y := (μ q 7)) (by first | rfl | (simp only [up2_ne n0])) ?_
  refine a_puti (pc := 61) fp_X5_57 (by assumption) (by decide) (by rfl) dX5_copyFrom_61 ?_
  refine a_aload_n (pc := 64) dX5_copyFrom_64 rfl rfl ?_
  refine a_aload_n (pc := 65) dX5_copyFrom_65 rfl rfl ?_
  refine a_geti (pc := 66) fl_X5_60 (by assumption) (by decide) (by rfl) dX5_copyFrom_66 ?_
  refine a_top (y := (μ q 8)) (by first | rfl | (simp only [up2_ne n0])) ?_
  refine a_puti (pc := 69) fp_X5_60 (by assumption) (by decide) (by rfl) dX5_copyFrom_69 ?_
  refine a_aload_n (pc := 72) dX5_copyFrom_72 rfl rfl ?_
  refine a_aload_n (pc := 73) dX5_copyFrom_73 rfl rfl ?_
  refine a_geti (pc := 74) fl_X5_63 (by assumption) (by decide) (by rfl) dX5_copyFrom_74 ?_
  refine a_top (y := (μ q 9)) (by first | rfl | (simp only [up2_ne n0])) ?_
  refine a_puti (pc := 77) fp_X5_63 (by assumption) (by decide) (by rfl) dX5_copyFrom_77 ?_
  refine a_aload_n (pc := 80) dX5_copyFrom_80 rfl rfl ?_
  refine a_aload_n (pc := 81) dX5_copyFrom_81 rfl rfl ?_
  refine a_geti (pc := 82) fl_X5_66 (by assumption) (by decide) (by rfl) dX5_copyFrom_82 ?_
  refine a_top (y := (μ q 10)) (by first | rfl | (simp only [up2_ne n0])) ?_
  refine a_putx (pc := 85) fp_X5_66 (bool_nar hb).1 (bool_nar hb).2 (by assumption) (by decide) (by rfl) dX5_copyFrom_85 ?_
  refine a_aload_n (pc := 88) dX5_copyFrom_88 rfl rfl ?_
  refine a_aload_n (pc := 89) dX5_copyFrom_89 rfl rfl ?_
  refine a_geti (pc := 90) fl_X5_70 (by assumption) (by decide) (by rfl) dX5_copyFrom_90 ?_
  refine a_top (y := (μ q 11)) (by first | rfl | (simp only [up2_ne n0])) ?_
  refine a_puti (pc := 93) fp_X5_70 (by assumption) (by decide) (by rfl) dX5_copyFrom_93 ?_
  refine a_aload_n (pc := 96) dX5_copyFrom_96 rfl rfl ?_
  refine a_aload_n (pc := 97) dX5_copyFrom_97 rfl rfl ?_
  refine a_geti (pc := 98) fl_X5_73 (by assumption) (by decide) (by rfl) dX5_copyFrom_98 ?_
  refine a_top (y := (μ q 12)) (by first | rfl | (simp only [up2_ne n0])) ?_
  refine a_puti (pc := 101) fp_X5_73 (by assumption) (by decide) (by rfl) dX5_copyFrom_101 ?_
  refine a_aload_n (pc := 104) dX5_copyFrom_104 rfl rfl ?_
  refine a_aload_n (pc := 105) dX5_copyFrom_105 rfl rfl ?_
  refine a_geti (pc := 106) fl_X5_76 (by assumption) (by decide) (by rfl) dX5_copyFrom_106 ?_
  refine a_top (y := (μ q 13)) (by first | rfl | (simp only [up2_ne n0])) ?_
  refine a_puti (pc := 109) fp_X5_76 (by assumption) (by decide) (by rfl) dX5_copyFrom_109 ?_
  refine a_aload_n (pc := 112) dX5_copyFrom_112 rfl rfl ?_
  refine a_aload_n (pc := 113) dX5_copyFrom_113 rfl rfl ?_
  refine a_geti (pc := 114) fl_X5_79 (by assumption) (by decide) (by rfl) dX5_copyFrom_114 ?_
  refine a_top (y := (μ q 14)) (by first | rfl | (simp only [up2_ne n0])) ?_
  refine a_puti (pc := 117) fp_X5_79 (by assumption) (by decide) (by rfl) dX5_copyFrom_117 ?_
  refine a_aload_n (pc := 120) dX5_copyFrom_120 rfl rfl ?_
  refine a_getr (pc := 121) fl_X5_12 (by assumption) (by decide) (by rfl) dX5_copyFrom_121 ?_
  refine a_aload_n (pc := 124) dX5_copyFrom_124 rfl rfl ?_
  refine a_getr (pc := 125) fl_X5_12 (by assumption) (by decide) (by rfl) dX5_copyFrom_125 ?_
  refine a_callV1 (pc := 128) ck_X5_91 ⟨(Nat.le_of_ble_eq_true rfl), (Nat.le_of_ble_eq_true rfl)⟩ (by assumption) (by decide) (Nat.le_of_ble_eq_true rfl) dX5_copyFrom_128 rfl (c_X0_copyFrom (o := o + 1) (q := q + 1) ws.2.1 vs.2.1 (by omega)) ?_
  rintro u rfl
  refine a_aload_n (pc := 131) dX5_copyFrom_131 rfl rfl ?_
  refine a_getr (pc := 132) fl_X5_21 (by assumption) (by decide) (by rfl) dX5_copyFrom_132 ?_
  refine a_aload_n (pc := 135) dX5_copyFrom_135 rfl rfl ?_
  refine a_getr (pc := 136) fl_X5_21 (by assumption) (by decide) (by rfl) dX5_copyFrom_136 ?_
  refine a_callV1 (pc := 139) ck_X5_95 ⟨(Nat.le_of_ble_eq_true rfl), (Nat.le_of_ble_eq_true rfl)⟩ (by assumption) (by decide) (Nat.le_of_ble_eq_true rfl) dX5_copyFrom_139 rfl (c_X1_copyFrom (o := o + 4) (q := q + 4) ws.2.2.1 vs.2.2.1 (by omega)) ?_
  rintro u rfl
  refine a_aload_n (pc := 142) dX5_copyFrom_142 rfl rfl ?_
  refine a_getr (pc := 143) fl_X5_28 (by assumption) (by decide) (by rfl) dX5_copyFrom_143 ?_
  refine a_aload_n (pc := 146) dX5_copyFrom_146 rfl rfl ?_
  refine a_getr (pc := 147) fl_X5_28 (by assumption) (by decide) (by rfl) dX5_copyFrom_147 ?_
  refine a_callV1 (pc := 150) ck_X5_98 ⟨(Nat.le_of_ble_eq_true rfl), (Nat.le_of_ble_eq_true rfl)⟩ (by assumption) (by decide) (Nat.le_of_ble_eq_true rfl) dX5_copyFrom_150 rfl (c_X4_copyFrom (o := o + 6) (q := q + 6) ws.2.2.2.1 vs.2.2.2.1) ?_
  rintro u rfl
  refine a_vret (pc := 153) rfl dX5_copyFrom_153 ?_
  have e1 : q + 1 ≠ o := by omega
  have e2 : q + 2 ≠ o := by omega
  have e3 : q + 3 ≠ o := by omega
  have e4 : q + 4 ≠ o := by omega
  have e5 : q + 5 ≠ o := by omega
  have e6 : q + 6 ≠ o := by omega
  have cp : ∀ f g : Nat → Int32, ∀ m k, k < m → va_cpy f g 0 0 m k = f k := fun f g m k hk => by rw [pk_cpy_in (by omega) (by omega)]; congr 1; omega
  refine ⟨⟨?_, ?_, ?_, ?_, ?_, ?_, ?_⟩, ?_⟩
  · intro k hk
    rw [putF_ne (by omega)]
    unfold cpMF cpRF
    rw [upA_ne (by omega), up2_ne (by omega), upA_ne (by omega), upA_ne (by omega), up2_ne (by omega)]
    rcases case15 hk with rfl | rfl | rfl | rfl | rfl | rfl | rfl | rfl | rfl | rfl | rfl | rfl | rfl | rfl | rfl <;> simp [up2_ap]
  · rw [putF_ne (by omega)]
    unfold cpMF cpRF
    rw [upA_ne (by omega), up2_ne (by omega), upA_ne (by omega), upA_ne (by omega), up2_at]
    simp only [up2_ne e1]
  · intro k hk
    rw [putF_ne (by omega)]
    unfold cpMF cpRF
    rw [upA_ne (by omega), up2_ne (by omega), upA_ne (by omega), show o + 2 = o + 1 + 1 from rfl, upA_at, cp _ _ _ _ hk, show q + 1 + 1 = q + 2 from rfl]
    simp only [up2_ne e2]
  · intro k hk
    rw [putF_ne (by omega)]
    unfold cpMF cpRF
    rw [upA_ne (by omega), up2_ne (by omega), show o + 3 = o + 1 + 2 from rfl, upA_at, cp _ _ _ _ hk, show q + 1 + 2 = q + 3 from rfl]
    simp only [up2_ne e3]
  · rw [putF_ne (by omega)]
    unfold cpMF cpRF
    rw [upA_ne (by omega), up2_at, upA_ne (by omega), upA_ne (by omega), up2_ne (by omega)]
    simp only [up2_ne e4]
  · intro k hk
    rw [putF_ne (by omega)]
    unfold cpMF cpRF
    rw [show o + 5 = o + 4 + 1 from rfl, upA_at, cp _ _ _ _ hk, upA_ne (by omega), upA_ne (by omega), up2_ne (by omega), show q + 4 + 1 = q + 5 from rfl]
    simp only [up2_ne e5]
  · have r6 : ∀ k, cpMF (cpRF (up2 (up2 (up2 (up2 (up2 (up2 (up2 (up2 (up2 (up2 (up2 (up2 (up2 (up2 (up2 μ o 0 (μ q 0)) o 1 (μ q 1)) o 2 (μ q 2)) o 3 (μ q 3)) o 4 (μ q 4)) o 5 (μ q 5)) o 6 (μ q 6)) o 7 (μ q 7)) o 8 (μ q 8)) o 9 (μ q 9)) o 10 (μ q 10)) o 11 (μ q 11)) o 12 (μ q 12)) o 13 (μ q 13)) o 14 (μ q 14)) (o + 1) (q + 1)) (o + 4) (q + 4) (q + 6) k = μ (q + 6) k := by
      intro k
      unfold cpMF cpRF
      rw [upA_ne (by omega), up2_ne (by omega), upA_ne (by omega), upA_ne (by omega), up2_ne (by omega)]
      simp only [up2_ne e6]
    intro k hk
    rw [r6, r6, r6, r6]
    rcases case4 hk with rfl | rfl | rfl | rfl <;> simp [putF, up2_ap]
  · intro x hx
    rw [putF_ne (by omega)]
    unfold cpMF cpRF
    rw [upA_ne (by omega), up2_ne (by omega), upA_ne (by omega), upA_ne (by omega), up2_ne (by omega)]
    simp only [up2_ne (show x ≠ o by omega)]

def NCP (u : Mem) (n : Nat) (μ : Mem) (m : Nat) : Prop := (∀ k, k < 8 → u n k = μ m k) ∧ (∀ k, k < 10 → u (n + 1) k = μ (m + 1) k) ∧ ∀ i, i < 6 → SCP u (stA n i) μ (stA m i)
theorem SCP.fr {u u' : Mem} {o : Nat} {μ : Mem} {q : Nat} (hu : ∀ x, o ≤ x → x ≤ o + 6 → u' x = u x) (h : SCP u o μ q) : SCP u' o μ q := by
  unfold SCP at h ⊢
  rw [hu o (by omega) (by omega), hu (o + 1) (by omega) (by omega), hu (o + 2) (by omega) (by omega), hu (o + 3) (by omega) (by omega), hu (o + 4) (by omega) (by omega), hu (o + 5) (by omega) (by omega), hu (o + 6) (by omega) (by omega)]
  exact h
theorem SCP.src {u : Mem} {o : Nat} {μ μ' : Mem} {q : Nat} (hu : ∀ x, q ≤ x → x ≤ q + 6 → μ' x = μ x) (h : SCP u o μ q) : SCP u o μ' q := by
  unfold SCP at h ⊢
  rw [hu q (by omega) (by omega), hu (q + 1) (by omega) (by omega), hu (q + 2) (by omega) (by omega), hu (q + 3) (by omega) (by omega), hu (q + 4) (by omega) (by omega), hu (q + 5) (by omega) (by omega), hu (q + 6) (by omega) (by omega)]
  exact h
theorem case8 {k : Nat} (h : k < 8) : k = 0 ∨ k = 1 ∨ k = 2 ∨ k = 3 ∨ k = 4 ∨ k = 5 ∨ k = 6 ∨ k = 7 := by omega
def BLn (μ : Mem) (n : Nat) : Prop := ∀ i, i < 6 → μ (stA n i) 10 = 0 ∨ μ (stA n i) 10 = 1
set_option maxHeartbeats 4000000 in
set_option maxRecDepth 100000 in
theorem l_X2_copyFrom {μ μ1 : Mem} {n m : Nat} (hn : isNet n) (hm : isNet m) (hd : m + 50 < n ∨ n + 50 < m) (hb : BLn μ m) {Q : Int32 → Mem → Prop} (hQ : ∀ u, (∀ x, (x < n ∨ n + 50 < x) → u x = μ x) → (∀ x, x < n + 3 → u x = μ1 x) → (∀ j, j < 6 → SCP u (stA n j) μ (stA m j)) → Q 0 u) : ∀ d i : Nat, i + d = 6 → ∀ ν : Mem, (∀ x, (x < n ∨ n + 50 < x) → ν x = μ x) → (∀ x, x < n + 3 → ν x = μ1 x) → (∀ j, j < i → SCP ν (stA n j) μ (stA m j)) → AW shC mX2_copyFrom 81 [some (.ref n), some (.ref m), some (.int (nI i))] [] ν Q := by
  obtain ⟨hn0, hn1, hn2, hnS⟩ := id hn
  obtain ⟨hm0, hm1, hm2, hmS⟩ := id hm
  intro d
  induction d with
  | zero =>
    intro i hdi ν hfr hlo hst
    refine a_iload_n (pc := 81) dX2_copyFrom_81 rfl rfl ?_
    refine a_bipush (pc := 82) (v := 6) dX2_copyFrom_82 (by decide) ?_
    refine a_icmp_ge (pc := 84) (tgt := 108) dX2_copyFrom_84 (by decide) (fun c_84 => ?_) (fun c_84 => ?_)
    · have e : i = 6 := by omega
      subst e
      exact a_vret (pc := 108) rfl dX2_copyFrom_108 (hQ ν hfr hlo hst)
    · exact absurd (lt_of_not_ge' (a := i) (b := 6) (by omega) (by omega) c_84) (by omega)
  | succ d ih =>
    intro i hdi ν hfr hlo hst
    have ws := hnS i (by omega)
    have w0 : shC[stA n i]? = _ := ws.1
    have vs := hmS i (by omega)
    have v0 : shC[stA m i]? = _ := vs.1
    refine a_iload_n (pc := 81) dX2_copyFrom_81 rfl rfl ?_
    refine a_bipush (pc := 82) (v := 6) dX2_copyFrom_82 (by decide) ?_
    refine a_icmp_ge (pc := 84) (tgt := 108) dX2_copyFrom_84 (by decide) (fun c_84 => ?_) (fun c_84 => ?_)
    · exact absurd (le_of_ge' (a := i) (b := 6) (by omega) (by omega) c_84) (by omega)
    · refine a_aload_n (pc := 87) dX2_copyFrom_87 rfl rfl ?_
      refine a_getr (pc := 88) fl_X2_17 (by assumption) (by decide) (by rfl) dX2_copyFrom_88 ?_
      refine a_iload_n (pc := 91) dX2_copyFrom_91 rfl rfl ?_
      refine a_aald2 (pc := 92)  (by assumption) rfl (by omega) (by decide) (all_at (by omega)) dX2_copyFrom_92 ?_
      refine a_aload_n (pc := 93) dX2_copyFrom_93 rfl rfl ?_
      refine a_getr (pc := 94) fl_X2_17 (by assumption) (by decide) (by rfl) dX2_copyFrom_94 ?_
      refine a_iload_n (pc := 97) dX2_copyFrom_97 rfl rfl ?_
      refine a_aald2 (pc := 98)  (by assumption) rfl (by omega) (by decide) (all_at (by omega)) dX2_copyFrom_98 ?_
      refine a_callV1 (pc := 99) ck_X2_56 ⟨(Nat.le_of_ble_eq_true rfl), (Nat.le_of_ble_eq_true rfl)⟩ (by assumption) (by decide) (Nat.le_of_ble_eq_true rfl) dX2_copyFrom_99 rfl (c_X5_copyFrom (hnS i (by omega)) (hmS i (by omega)) (by unfold stA; omega) (by rw [hfr _ (by unfold stA; omega)]; exact hb i (by omega))) ?_
      rintro u ⟨hcp, hcf⟩
      refine a_iincN (pc := 102) (m := 1) (al' := [some (.ref _), some (.ref _), some (.int _)]) dX2_copyFrom_102 rfl (by decide) rfl rfl ?_
      refine a_goto (pc := 105) (tgt := 81) dX2_copyFrom_105 (by decide) ?_
      refine ih (i + 1) (by omega) u ?_ ?_ ?_
      · intro x hx; rw [hcf x (by unfold stA; omega)]; exact hfr x hx
      · intro x hx; rw [hcf x (by unfold stA; omega)]; exact hlo x hx
      · intro j hj
        by_cases e : j = i
        · subst e; exact hcp.src (fun x h1 h2 => (hfr x (by unfold stA at h1 h2; omega)).symm)
        · exact (hst j (by omega)).fr (fun x h1 h2 => hcf x (by unfold stA at h1 h2 ⊢; omega))
set_option maxHeartbeats 4000000 in
set_option maxRecDepth 100000 in
theorem c_X2_copyFrom {μ : Mem} {n m : Nat} (hn : isNet n) (hm : isNet m) (hd : m + 50 < n ∨ n + 50 < m) (hb : BLn μ m) : Con shC mX2_copyFrom [.ref n, .ref m] μ (fun _ u => NCP u n μ m ∧ ∀ x, (x < n ∨ n + 50 < x) → u x = μ x) := by
  obtain ⟨hn0, hn1, hn2, hnS⟩ := id hn
  obtain ⟨hm0, hm1, hm2, hmS⟩ := id hm
  have n0 : m ≠ n := by omega
  have n1 : m + 1 ≠ n := by omega
  refine Con.ofAW (al0 := [some (.ref n), some (.ref m), none]) (by decide) rfl (Nat.le_of_ble_eq_true rfl) rfl ?_
  refine a_aload_n (pc := 0) dX2_copyFrom_0 rfl rfl ?_
  refine a_aload_n (pc := 1) dX2_copyFrom_1 rfl rfl ?_
  refine a_geti (pc := 2) fl_X2_22 (by assumption) (by decide) (by rfl) dX2_copyFrom_2 ?_
  refine a_top (y := (μ m 0)) (by first | rfl | (simp only [up2_ne n0])) ?_
  refine a_puti (pc := 5) fp_X2_22 (by assumption) (by decide) (by rfl) dX2_copyFrom_5 ?_
  refine a_aload_n (pc := 8) dX2_copyFrom_8 rfl rfl ?_
  refine a_aload_n (pc := 9) dX2_copyFrom_9 rfl rfl ?_
  refine a_geti (pc := 10) fl_X2_26 (by assumption) (by decide) (by rfl) dX2_copyFrom_10 ?_
  refine a_top (y := (μ m 1)) (by first | rfl | (simp only [up2_ne n0])) ?_
  refine a_puti (pc := 13) fp_X2_26 (by assumption) (by decide) (by rfl) dX2_copyFrom_13 ?_
  refine a_aload_n (pc := 16) dX2_copyFrom_16 rfl rfl ?_
  refine a_aload_n (pc := 17) dX2_copyFrom_17 rfl rfl ?_
  refine a_geti (pc := 18) fl_X2_29 (by assumption) (by decide) (by rfl) dX2_copyFrom_18 ?_
  refine a_top (y := (μ m 2)) (by first | rfl | (simp only [up2_ne n0])) ?_
  refine a_puti (pc := 21) fp_X2_29 (by assumption) (by decide) (by rfl) dX2_copyFrom_21 ?_
  refine a_aload_n (pc := 24) dX2_copyFrom_24 rfl rfl ?_
  refine a_aload_n (pc := 25) dX2_copyFrom_25 rfl rfl ?_
  refine a_geti (pc := 26) fl_X2_32 (by assumption) (by decide) (by rfl) dX2_copyFrom_26 ?_
  refine a_top (y := (μ m 3)) (by first | rfl | (simp only [up2_ne n0])) ?_
  refine a_puti (pc := 29) fp_X2_32 (by assumption) (by decide) (by rfl) dX2_copyFrom_29 ?_
  refine a_aload_n (pc := 32) dX2_copyFrom_32 rfl rfl ?_
  refine a_aload_n (pc := 33) dX2_copyFrom_33 rfl rfl ?_
  refine a_geti (pc := 34) fl_X2_35 (by assumption) (by decide) (by rfl) dX2_copyFrom_34 ?_
  refine a_top (y := (μ m 4)) (by first | rfl | (simp only [up2_ne n0])) ?_
  refine a_puti (pc := 37) fp_X2_35 (by assumption) (by decide) (by rfl) dX2_copyFrom_37 ?_
  refine a_aload_n (pc := 40) dX2_copyFrom_40 rfl rfl ?_
  refine a_aload_n (pc := 41) dX2_copyFrom_41 rfl rfl ?_
  refine a_geti (pc := 42) fl_X2_38 (by assumption) (by decide) (by rfl) dX2_copyFrom_42 ?_
  refine a_top (y := (μ m 5)) (by first | rfl | (simp only [up2_ne n0])) ?_
  refine a_puti (pc := 45) fp_X2_38 (by assumption) (by decide) (by rfl) dX2_copyFrom_45 ?_
  refine a_aload_n (pc := 48) dX2_copyFrom_48 rfl rfl ?_
  refine a_aload_n (pc := 49) dX2_copyFrom_49 rfl rfl ?_
  refine a_geti (pc := 50) fl_X2_41 (by assumption) (by decide) (by rfl) dX2_copyFrom_50 ?_
  refine a_top (y := (μ m 6)) (by first | rfl | (simp only [up2_ne n0])) ?_
  refine a_puti (pc := 53) fp_X2_41 (by assumption) (by decide) (by rfl) dX2_copyFrom_53 ?_
  refine a_aload_n (pc := 56) dX2_copyFrom_56 rfl rfl ?_
  refine a_aload_n (pc := 57) dX2_copyFrom_57 rfl rfl ?_
  refine a_geti (pc := 58) fl_X2_44 (by assumption) (by decide) (by rfl) dX2_copyFrom_58 ?_
  refine a_top (y := (μ m 7)) (by first | rfl | (simp only [up2_ne n0])) ?_
  refine a_puti (pc := 61) fp_X2_44 (by assumption) (by decide) (by rfl) dX2_copyFrom_61 ?_
  refine a_aload_n (pc := 64) dX2_copyFrom_64 rfl rfl ?_
  refine a_getr (pc := 65) fl_X2_9 (by assumption) (by decide) (by rfl) dX2_copyFrom_65 ?_
  refine a_iconst (pc := 68) (v := 0) dX2_copyFrom_68 (by decide) ?_
  refine a_aload_n (pc := 69) dX2_copyFrom_69 rfl rfl ?_
  refine a_getr (pc := 70) fl_X2_9 (by assumption) (by decide) (by rfl) dX2_copyFrom_70 ?_
  refine a_iconst (pc := 73) (v := 0) dX2_copyFrom_73 (by decide) ?_
  refine a_bipush (pc := 74) (v := 10) dX2_copyFrom_74 (by decide) ?_
  refine a_copy (pc := 76) (js := 0) (jd := 0) (jn := 10) (by assumption) (by assumption) rfl rfl rfl (by omega) (by omega) (by decide) (by decide) nl_X2_50 nw_copy1 nw_copy2 nw_copy3 (Nat.le_of_ble_eq_true rfl) (Nat.le_of_ble_eq_true rfl) dX2_copyFrom_76 ?_
  refine a_iconst (pc := 79) (v := 0) dX2_copyFrom_79 (by decide) ?_
  refine a_istore_n (pc := 80) (al' := [some (.ref _), some (.ref _), some (.int _)]) dX2_copyFrom_80 rfl (by decide) rfl rfl ?_
  refine l_X2_copyFrom (μ := μ) (μ1 := _) hn hm hd hb (fun u h1 h2 h3 => ⟨⟨?_, ?_, h3⟩, h1⟩) 6 0 (by omega) _ (fun x hx => ?_) (fun x hx => rfl) (fun j hj => by omega)
  · rw [upA_ne (by omega)]
    simp only [up2_ne (show x ≠ n by omega)]
  · intro k hk
    rw [h2 n (by omega), upA_ne (by omega)]
    rcases case8 hk with rfl | rfl | rfl | rfl | rfl | rfl | rfl | rfl <;> simp [up2_ap]
  · intro k hk
    rw [h2 (n + 1) (by omega), upA_at, pk_cpy_in (by omega) (by omega)]
    simp only [up2_ne n1]
    congr 1; omega

def SCL (u : Mem) (o : Nat) : Prop := (∀ k, k < 15 → u o k = 0) ∧ u (o + 1) 0 = 0 ∧ u (o + 4) 0 = 0 ∧ ∀ k, k < 4 → u (o + 6) k = 0
set_option maxHeartbeats 4000000 in
set_option maxRecDepth 100000 in
theorem c_X5_clear {μ : Mem} {o : Nat} (h : isSt o) : Con shC mX5_clear [.ref o] μ (fun _ u => SCL u o ∧ ∀ x, (x < o ∨ o + 7 < x) → u x = μ x) := by
  have ws := h
  have w0 : shC[o]? = _ := ws.1
  have w1 : shC[o + 1]? = some (0, 3, [none, some (o + 2), some (o + 3)]) := ws.2.1.1
  have w2 : shC[o + 2]? = some (100, 6, []) := ws.2.1.2.1
  have w3 : shC[o + 3]? = some (100, 6, []) := ws.2.1.2.2
  have w4 : shC[o + 4]? = some (1, 2, [none, some (o + 5)]) := ws.2.2.1.1
  have w5 : shC[o + 5]? = some (100, 24, []) := ws.2.2.1.2
  have w6 : shC[o + 6]? = some (4, 4, [none, none, none, none]) := ws.2.2.2.1
  have w7 : shC[o + 7]? = some (4, 4, [none, none, none, none]) := ws.2.2.2.2
  refine Con.ofAW (al0 := [some (.ref o)]) (by decide) rfl (Nat.le_of_ble_eq_true rfl) rfl ?_
  refine a_aload_n (pc := 0) dX5_clear_0 rfl rfl ?_
  refine a_iconst (pc := 1) (v := 0) dX5_clear_1 (by decide) ?_
  refine a_puti (pc := 2) fp_X5_35 (by assumption) (by decide) (by rfl) dX5_clear_2 ?_
  refine a_aload_n (pc := 5) dX5_clear_5 rfl rfl ?_
  refine a_iconst (pc := 6) (v := 0) dX5_clear_6 (by decide) ?_
  refine a_puti (pc := 7) fp_X5_39 (by assumption) (by decide) (by rfl) dX5_clear_7 ?_
  refine a_aload_n (pc := 10) dX5_clear_10 rfl rfl ?_
  refine a_iconst (pc := 11) (v := 0) dX5_clear_11 (by decide) ?_
  refine a_puti (pc := 12) fp_X5_42 (by assumption) (by decide) (by rfl) dX5_clear_12 ?_
  refine a_aload_n (pc := 15) dX5_clear_15 rfl rfl ?_
  refine a_iconst (pc := 16) (v := 0) dX5_clear_16 (by decide) ?_
  refine a_puti (pc := 17) fp_X5_45 (by assumption) (by decide) (by rfl) dX5_clear_17 ?_
  refine a_aload_n (pc := 20) dX5_clear_20 rfl rfl ?_
  refine a_iconst (pc := 21) (v := 0) dX5_clear_21 (by decide) ?_
  refine a_puti (pc := 22) fp_X5_48 (by assumption) (by decide) (by rfl) dX5_clear_22 ?_
  refine a_aload_n (pc := 25) dX5_clear_25 rfl rfl ?_
  refine a_iconst (pc := 26) (v := 0) dX5_clear_26 (by decide) ?_
  refine a_puti (pc := 27) fp_X5_51 (by assumption) (by decide) (by rfl) dX5_clear_27 ?_
  refine a_aload_n (pc := 30) dX5_clear_30 rfl rfl ?_
  refine a_iconst (pc := 31) (v := 0) dX5_clear_31 (by decide) ?_
  refine a_puti (pc := 32) fp_X5_54 (by assumption) (by decide) (by rfl) dX5_clear_32 ?_
  refine a_aload_n (pc := 35) dX5_clear_35 rfl rfl ?_
  refine a_iconst (pc := 36) (v := 0) dX5_clear_36 (by decide) ?_
  refine a_puti (pc := 37) fp_X5_57 (by assumption) (by decide) (by rfl) dX5_clear_37 ?_
  refine a_aload_n (pc := 40) dX5_clear_40 rfl rfl ?_
  refine a_iconst (pc := 41) (v := 0) dX5_clear_41 (by decide) ?_
  refine a_puti (pc := 42) fp_X5_60 (by assumption) (by decide) (by rfl) dX5_clear_42 ?_
  refine a_aload_n (pc := 45) dX5_clear_45 rfl rfl ?_
  refine a_iconst (pc := 46) (v := 0) dX5_clear_46 (by decide) ?_
  refine a_puti (pc := 47) fp_X5_63 (by assumption) (by decide) (by rfl) dX5_clear_47 ?_
  refine a_aload_n (pc := 50) dX5_clear_50 rfl rfl ?_
  refine a_iconst (pc := 51) (v := 0) dX5_clear_51 (by decide) ?_
  refine a_putx (pc := 52) fp_X5_66 (by rfl) (by rfl) (by assumption) (by decide) (by rfl) dX5_clear_52 ?_
  refine a_aload_n (pc := 55) dX5_clear_55 rfl rfl ?_
  refine a_iconst (pc := 56) (v := 0) dX5_clear_56 (by decide) ?_
  refine a_puti (pc := 57) fp_X5_70 (by assumption) (by decide) (by rfl) dX5_clear_57 ?_
  refine a_aload_n (pc := 60) dX5_clear_60 rfl rfl ?_
  refine a_iconst (pc := 61) (v := 0) dX5_clear_61 (by decide) ?_
  refine a_puti (pc := 62) fp_X5_73 (by assumption) (by decide) (by rfl) dX5_clear_62 ?_
  refine a_aload_n (pc := 65) dX5_clear_65 rfl rfl ?_
  refine a_iconst (pc := 66) (v := 0) dX5_clear_66 (by decide) ?_
  refine a_puti (pc := 67) fp_X5_76 (by assumption) (by decide) (by rfl) dX5_clear_67 ?_
  refine a_aload_n (pc := 70) dX5_clear_70 rfl rfl ?_
  refine a_iconst (pc := 71) (v := 0) dX5_clear_71 (by decide) ?_
  refine a_puti (pc := 72) fp_X5_79 (by assumption) (by decide) (by rfl) dX5_clear_72 ?_
  refine a_aload_n (pc := 75) dX5_clear_75 rfl rfl ?_
  refine a_getr (pc := 76) fl_X5_12 (by assumption) (by decide) (by rfl) dX5_clear_76 ?_
  refine a_iconst (pc := 79) (v := 0) dX5_clear_79 (by decide) ?_
  refine a_puti (pc := 80) fp_X5_82 (by assumption) (by decide) (by rfl) dX5_clear_80 ?_
  refine a_aload_n (pc := 83) dX5_clear_83 rfl rfl ?_
  refine a_getr (pc := 84) fl_X5_21 (by assumption) (by decide) (by rfl) dX5_clear_84 ?_
  refine a_iconst (pc := 87) (v := 0) dX5_clear_87 (by decide) ?_
  refine a_puti (pc := 88) fp_X5_85 (by assumption) (by decide) (by rfl) dX5_clear_88 ?_
  refine a_aload_n (pc := 91) dX5_clear_91 rfl rfl ?_
  refine a_getr (pc := 92) fl_X5_28 (by assumption) (by decide) (by rfl) dX5_clear_92 ?_
  refine a_callV0 (pc := 95) ck_X5_88 ⟨(Nat.le_of_ble_eq_true rfl), (Nat.le_of_ble_eq_true rfl)⟩ (by assumption) (by decide) (Nat.le_of_ble_eq_true rfl) dX5_clear_95 rfl (c_X4_clear (by assumption)) ?_
  rintro u rfl
  refine a_aload_n (pc := 98) dX5_clear_98 rfl rfl ?_
  refine a_getr (pc := 99) fl_X5_32 (by assumption) (by decide) (by rfl) dX5_clear_99 ?_
  refine a_callV0 (pc := 102) ck_X5_88 ⟨(Nat.le_of_ble_eq_true rfl), (Nat.le_of_ble_eq_true rfl)⟩ (by assumption) (by decide) (Nat.le_of_ble_eq_true rfl) dX5_clear_102 rfl (c_X4_clear (by assumption)) ?_
  rintro u rfl
  refine a_vret (pc := 105) rfl dX5_clear_105 ?_
  refine ⟨⟨?_, ?_, ?_, ?_⟩, ?_⟩
  · intro k hk
    rw [putF_ne (by omega), putF_ne (by omega), up2_ne (by omega), up2_ne (by omega)]
    rcases case15 hk with rfl | rfl | rfl | rfl | rfl | rfl | rfl | rfl | rfl | rfl | rfl | rfl | rfl | rfl | rfl <;> simp [up2_ap]
  · rw [putF_ne (by omega), putF_ne (by omega), up2_ne (by omega), up2_at]
  · rw [putF_ne (by omega), putF_ne (by omega), up2_at]
  · intro k hk
    rw [putF_ne (by omega)]
    rcases case4 hk with rfl | rfl | rfl | rfl <;> simp [putF, up2_ap]
  · intro x hx
    rw [putF_ne (by omega), putF_ne (by omega), up2_ne (by omega), up2_ne (by omega)]
    simp only [up2_ne (show x ≠ o by omega)]

def NCL (u : Mem) (n : Nat) : Prop := u n 0 = 0 ∧ u n 1 = 4 ∧ u n 2 = 32 ∧ u n 3 = 3 ∧ u n 4 = 5 ∧ u n 5 = 0 ∧ u n 6 = 0 ∧ u n 7 = 0 ∧ (∀ k, k < 10 → u (n + 1) k = 0) ∧ ∀ i, i < 6 → SCL u (stA n i)
theorem SCL.fr {u u' : Mem} {o : Nat} (hu : ∀ x, o ≤ x → x ≤ o + 6 → u' x = u x) (h : SCL u o) : SCL u' o := by
  unfold SCL at h ⊢
  rw [hu o (by omega) (by omega), hu (o + 1) (by omega) (by omega), hu (o + 4) (by omega) (by omega), hu (o + 6) (by omega) (by omega)]
  exact h
set_option maxHeartbeats 4000000 in
set_option maxRecDepth 100000 in
theorem l_X2_clear {μ : Mem} {n : Nat} (hn : isNet n) {Q : Int32 → Mem → Prop} (hQ : ∀ u, (∀ x, (x < n + 3 ∨ n + 50 < x) → u x = μ x) → (∀ j, j < 6 → SCL u (stA n j)) → Q 0 u) : ∀ d i : Nat, i + d = 6 → ∀ ν : Mem, (∀ x, (x < n + 3 ∨ n + 50 < x) → ν x = μ x) → (∀ j, j < i → SCL ν (stA n j)) → AW shC mX2_clear 64 [some (.ref n), some (.int (nI i))] [] ν Q := by
  obtain ⟨hn0, hn1, hn2, hnS⟩ := id hn
  intro d
  induction d with
  | zero =>
    intro i hdi ν hfr hst
    refine a_iload_n (pc := 64) dX2_clear_64 rfl rfl ?_
    refine a_bipush (pc := 65) (v := 6) dX2_clear_65 (by decide) ?_
    refine a_icmp_ge (pc := 67) (tgt := 85) dX2_clear_67 (by decide) (fun c_67 => ?_) (fun c_67 => ?_)
    · have e : i = 6 := by omega
      subst e
      exact a_vret (pc := 85) rfl dX2_clear_85 (hQ ν hfr hst)
    · exact absurd (lt_of_not_ge' (a := i) (b := 6) (by omega) (by omega) c_67) (by omega)
  | succ d ih =>
    intro i hdi ν hfr hst
    have ws := hnS i (by omega)
    have w0 : shC[stA n i]? = _ := ws.1
    refine a_iload_n (pc := 64) dX2_clear_64 rfl rfl ?_
    refine a_bipush (pc := 65) (v := 6) dX2_clear_65 (by decide) ?_
    refine a_icmp_ge (pc := 67) (tgt := 85) dX2_clear_67 (by decide) (fun c_67 => ?_) (fun c_67 => ?_)
    · exact absurd (le_of_ge' (a := i) (b := 6) (by omega) (by omega) c_67) (by omega)
    · refine a_aload_n (pc := 70) dX2_clear_70 rfl rfl ?_
      refine a_getr (pc := 71) fl_X2_17 (by assumption) (by decide) (by rfl) dX2_clear_71 ?_
      refine a_iload_n (pc := 74) dX2_clear_74 rfl rfl ?_
      refine a_aald2 (pc := 75)  (by assumption) rfl (by omega) (by decide) (all_at (by omega)) dX2_clear_75 ?_
      refine a_callV0 (pc := 76) ck_X2_47 ⟨(Nat.le_of_ble_eq_true rfl), (Nat.le_of_ble_eq_true rfl)⟩ (by assumption) (by decide) (Nat.le_of_ble_eq_true rfl) dX2_clear_76 rfl (c_X5_clear (hnS i (by omega))) ?_
      rintro u ⟨hcp, hcf⟩
      refine a_iincN (pc := 79) (m := 1) (al' := [some (.ref _), some (.int _)]) dX2_clear_79 rfl (by decide) rfl rfl ?_
      refine a_goto (pc := 82) (tgt := 64) dX2_clear_82 (by decide) ?_
      refine ih (i + 1) (by omega) u ?_ ?_
      · intro x hx; rw [hcf x (by unfold stA; omega)]; exact hfr x hx
      · intro j hj
        by_cases e : j = i
        · subst e; exact hcp
        · exact (hst j (by omega)).fr (fun x h1 h2 => hcf x (by unfold stA at h1 h2 ⊢; omega))
set_option maxHeartbeats 4000000 in
set_option maxRecDepth 100000 in
theorem c_X2_clear {μ : Mem} {n : Nat} (hn : isNet n) : Con shC mX2_clear [.ref n] μ (fun _ u => NCL u n ∧ ∀ x, (x < n ∨ n + 50 < x) → u x = μ x) := by
  obtain ⟨hn0, hn1, hn2, hnS⟩ := id hn
  refine Con.ofAW (al0 := [some (.ref n), none]) (by decide) rfl (Nat.le_of_ble_eq_true rfl) rfl ?_
  refine a_aload_n (pc := 0) dX2_clear_0 rfl rfl ?_
  refine a_iconst (pc := 1) (v := 0) dX2_clear_1 (by decide) ?_
  refine a_puti (pc := 2) fp_X2_22 (by assumption) (by decide) (by rfl) dX2_clear_2 ?_
  refine a_aload_n (pc := 5) dX2_clear_5 rfl rfl ?_
  refine a_iconst (pc := 6) (v := 4) dX2_clear_6 (by decide) ?_
  refine a_puti (pc := 7) fp_X2_26 (by assumption) (by decide) (by rfl) dX2_clear_7 ?_
  refine a_aload_n (pc := 10) dX2_clear_10 rfl rfl ?_
  refine a_bipush (pc := 11) (v := 32) dX2_clear_11 (by decide) ?_
  refine a_puti (pc := 13) fp_X2_29 (by assumption) (by decide) (by rfl) dX2_clear_13 ?_
  refine a_aload_n (pc := 16) dX2_clear_16 rfl rfl ?_
  refine a_iconst (pc := 17) (v := 3) dX2_clear_17 (by decide) ?_
  refine a_puti (pc := 18) fp_X2_32 (by assumption) (by decide) (by rfl) dX2_clear_18 ?_
  refine a_aload_n (pc := 21) dX2_clear_21 rfl rfl ?_
  refine a_iconst (pc := 22) (v := 5) dX2_clear_22 (by decide) ?_
  refine a_puti (pc := 23) fp_X2_35 (by assumption) (by decide) (by rfl) dX2_clear_23 ?_
  refine a_aload_n (pc := 26) dX2_clear_26 rfl rfl ?_
  refine a_iconst (pc := 27) (v := 0) dX2_clear_27 (by decide) ?_
  refine a_puti (pc := 28) fp_X2_38 (by assumption) (by decide) (by rfl) dX2_clear_28 ?_
  refine a_aload_n (pc := 31) dX2_clear_31 rfl rfl ?_
  refine a_iconst (pc := 32) (v := 0) dX2_clear_32 (by decide) ?_
  refine a_puti (pc := 33) fp_X2_41 (by assumption) (by decide) (by rfl) dX2_clear_33 ?_
  refine a_aload_n (pc := 36) dX2_clear_36 rfl rfl ?_
  refine a_iconst (pc := 37) (v := 0) dX2_clear_37 (by decide) ?_
  refine a_puti (pc := 38) fp_X2_44 (by assumption) (by decide) (by rfl) dX2_clear_38 ?_
  refine a_iconst (pc := 41) (v := 0) dX2_clear_41 (by decide) ?_
  refine a_istore_n (pc := 42) (al' := [some (.ref _), some (.int _)]) dX2_clear_42 rfl (by decide) rfl rfl ?_
  refine a_iload_n (pc := 43) dX2_clear_43 rfl rfl ?_
  refine a_bipush (pc := 44) (v := 9) dX2_clear_44 (by decide) ?_
  refine a_icmp_gt (pc := 46) (tgt := 62) dX2_clear_46 (by decide) (fun c_46 => ?_) (fun c_46 => ?_)
  · exact absurd c_46 (by decide)
  · refine a_aload_n (pc := 49) dX2_clear_49 rfl rfl ?_
    refine a_getr (pc := 50) fl_X2_9 (by assumption) (by decide) (by rfl) dX2_clear_50 ?_
    refine a_iload_n (pc := 53) dX2_clear_53 rfl rfl ?_
    refine a_iconst (pc := 54) (v := 0) dX2_clear_54 (by decide) ?_
    refine a_iast (pc := 55) (j := 0) (by assumption) rfl (by omega) (by decide) dX2_clear_55 ?_
    refine a_iinc (pc := 56) (v := 1) (al' := [some (.ref _), some (.int _)]) dX2_clear_56 rfl (by decide) (by decide) rfl rfl ?_
    refine a_goto (pc := 59) (tgt := 43) dX2_clear_59 (by decide) ?_
    refine a_iload_n (pc := 43) dX2_clear_43 rfl rfl ?_
    refine a_bipush (pc := 44) (v := 9) dX2_clear_44 (by decide) ?_
    refine a_icmp_gt (pc := 46) (tgt := 62) dX2_clear_46 (by decide) (fun c_46 => ?_) (fun c_46 => ?_)
    · exact absurd c_46 (by decide)
    · refine a_aload_n (pc := 49) dX2_clear_49 rfl rfl ?_
      refine a_getr (pc := 50) fl_X2_9 (by assumption) (by decide) (by rfl) dX2_clear_50 ?_
      refine a_iload_n (pc := 53) dX2_clear_53 rfl rfl ?_
      refine a_iconst (pc := 54) (v := 0) dX2_clear_54 (by decide) ?_
      refine a_iast (pc := 55) (j := 1) (by assumption) rfl (by omega) (by decide) dX2_clear_55 ?_
      refine a_iinc (pc := 56) (v := 2) (al' := [some (.ref _), some (.int _)]) dX2_clear_56 rfl (by decide) (by decide) rfl rfl ?_
      refine a_goto (pc := 59) (tgt := 43) dX2_clear_59 (by decide) ?_
      refine a_iload_n (pc := 43) dX2_clear_43 rfl rfl ?_
      refine a_bipush (pc := 44) (v := 9) dX2_clear_44 (by decide) ?_
      refine a_icmp_gt (pc := 46) (tgt := 62) dX2_clear_46 (by decide) (fun c_46 => ?_) (fun c_46 => ?_)
      · exact absurd c_46 (by decide)
      · refine a_aload_n (pc := 49) dX2_clear_49 rfl rfl ?_
        refine a_getr (pc := 50) fl_X2_9 (by assumption) (by decide) (by rfl) dX2_clear_50 ?_
        refine a_iload_n (pc := 53) dX2_clear_53 rfl rfl ?_
        refine a_iconst (pc := 54) (v := 0) dX2_clear_54 (by decide) ?_
        refine a_iast (pc := 55) (j := 2) (by assumption) rfl (by omega) (by decide) dX2_clear_55 ?_
        refine a_iinc (pc := 56) (v := 3) (al' := [some (.ref _), some (.int _)]) dX2_clear_56 rfl (by decide) (by decide) rfl rfl ?_
        refine a_goto (pc := 59) (tgt := 43) dX2_clear_59 (by decide) ?_
        refine a_iload_n (pc := 43) dX2_clear_43 rfl rfl ?_
        refine a_bipush (pc := 44) (v := 9) dX2_clear_44 (by decide) ?_
        refine a_icmp_gt (pc := 46) (tgt := 62) dX2_clear_46 (by decide) (fun c_46 => ?_) (fun c_46 => ?_)
        · exact absurd c_46 (by decide)
        · refine a_aload_n (pc := 49) dX2_clear_49 rfl rfl ?_
          refine a_getr (pc := 50) fl_X2_9 (by assumption) (by decide) (by rfl) dX2_clear_50 ?_
          refine a_iload_n (pc := 53) dX2_clear_53 rfl rfl ?_
          refine a_iconst (pc := 54) (v := 0) dX2_clear_54 (by decide) ?_
          refine a_iast (pc := 55) (j := 3) (by assumption) rfl (by omega) (by decide) dX2_clear_55 ?_
          refine a_iinc (pc := 56) (v := 4) (al' := [some (.ref _), some (.int _)]) dX2_clear_56 rfl (by decide) (by decide) rfl rfl ?_
          refine a_goto (pc := 59) (tgt := 43) dX2_clear_59 (by decide) ?_
          refine a_iload_n (pc := 43) dX2_clear_43 rfl rfl ?_
          refine a_bipush (pc := 44) (v := 9) dX2_clear_44 (by decide) ?_
          refine a_icmp_gt (pc := 46) (tgt := 62) dX2_clear_46 (by decide) (fun c_46 => ?_) (fun c_46 => ?_)
          · exact absurd c_46 (by decide)
          · refine a_aload_n (pc := 49) dX2_clear_49 rfl rfl ?_
            refine a_getr (pc := 50) fl_X2_9 (by assumption) (by decide) (by rfl) dX2_clear_50 ?_
            refine a_iload_n (pc := 53) dX2_clear_53 rfl rfl ?_
            refine a_iconst (pc := 54) (v := 0) dX2_clear_54 (by decide) ?_
            refine a_iast (pc := 55) (j := 4) (by assumption) rfl (by omega) (by decide) dX2_clear_55 ?_
            refine a_iinc (pc := 56) (v := 5) (al' := [some (.ref _), some (.int _)]) dX2_clear_56 rfl (by decide) (by decide) rfl rfl ?_
            refine a_goto (pc := 59) (tgt := 43) dX2_clear_59 (by decide) ?_
            refine a_iload_n (pc := 43) dX2_clear_43 rfl rfl ?_
            refine a_bipush (pc := 44) (v := 9) dX2_clear_44 (by decide) ?_
            refine a_icmp_gt (pc := 46) (tgt := 62) dX2_clear_46 (by decide) (fun c_46 => ?_) (fun c_46 => ?_)
            · exact absurd c_46 (by decide)
            · refine a_aload_n (pc := 49) dX2_clear_49 rfl rfl ?_
              refine a_getr (pc := 50) fl_X2_9 (by assumption) (by decide) (by rfl) dX2_clear_50 ?_
              refine a_iload_n (pc := 53) dX2_clear_53 rfl rfl ?_
              refine a_iconst (pc := 54) (v := 0) dX2_clear_54 (by decide) ?_
              refine a_iast (pc := 55) (j := 5) (by assumption) rfl (by omega) (by decide) dX2_clear_55 ?_
              refine a_iinc (pc := 56) (v := 6) (al' := [some (.ref _), some (.int _)]) dX2_clear_56 rfl (by decide) (by decide) rfl rfl ?_
              refine a_goto (pc := 59) (tgt := 43) dX2_clear_59 (by decide) ?_
              refine a_iload_n (pc := 43) dX2_clear_43 rfl rfl ?_
              refine a_bipush (pc := 44) (v := 9) dX2_clear_44 (by decide) ?_
              refine a_icmp_gt (pc := 46) (tgt := 62) dX2_clear_46 (by decide) (fun c_46 => ?_) (fun c_46 => ?_)
              · exact absurd c_46 (by decide)
              · refine a_aload_n (pc := 49) dX2_clear_49 rfl rfl ?_
                refine a_getr (pc := 50) fl_X2_9 (by assumption) (by decide) (by rfl) dX2_clear_50 ?_
                refine a_iload_n (pc := 53) dX2_clear_53 rfl rfl ?_
                refine a_iconst (pc := 54) (v := 0) dX2_clear_54 (by decide) ?_
                refine a_iast (pc := 55) (j := 6) (by assumption) rfl (by omega) (by decide) dX2_clear_55 ?_
                refine a_iinc (pc := 56) (v := 7) (al' := [some (.ref _), some (.int _)]) dX2_clear_56 rfl (by decide) (by decide) rfl rfl ?_
                refine a_goto (pc := 59) (tgt := 43) dX2_clear_59 (by decide) ?_
                refine a_iload_n (pc := 43) dX2_clear_43 rfl rfl ?_
                refine a_bipush (pc := 44) (v := 9) dX2_clear_44 (by decide) ?_
                refine a_icmp_gt (pc := 46) (tgt := 62) dX2_clear_46 (by decide) (fun c_46 => ?_) (fun c_46 => ?_)
                · exact absurd c_46 (by decide)
                · refine a_aload_n (pc := 49) dX2_clear_49 rfl rfl ?_
                  refine a_getr (pc := 50) fl_X2_9 (by assumption) (by decide) (by rfl) dX2_clear_50 ?_
                  refine a_iload_n (pc := 53) dX2_clear_53 rfl rfl ?_
                  refine a_iconst (pc := 54) (v := 0) dX2_clear_54 (by decide) ?_
                  refine a_iast (pc := 55) (j := 7) (by assumption) rfl (by omega) (by decide) dX2_clear_55 ?_
                  refine a_iinc (pc := 56) (v := 8) (al' := [some (.ref _), some (.int _)]) dX2_clear_56 rfl (by decide) (by decide) rfl rfl ?_
                  refine a_goto (pc := 59) (tgt := 43) dX2_clear_59 (by decide) ?_
                  refine a_iload_n (pc := 43) dX2_clear_43 rfl rfl ?_
                  refine a_bipush (pc := 44) (v := 9) dX2_clear_44 (by decide) ?_
                  refine a_icmp_gt (pc := 46) (tgt := 62) dX2_clear_46 (by decide) (fun c_46 => ?_) (fun c_46 => ?_)
                  · exact absurd c_46 (by decide)
                  · refine a_aload_n (pc := 49) dX2_clear_49 rfl rfl ?_
                    refine a_getr (pc := 50) fl_X2_9 (by assumption) (by decide) (by rfl) dX2_clear_50 ?_
                    refine a_iload_n (pc := 53) dX2_clear_53 rfl rfl ?_
                    refine a_iconst (pc := 54) (v := 0) dX2_clear_54 (by decide) ?_
                    refine a_iast (pc := 55) (j := 8) (by assumption) rfl (by omega) (by decide) dX2_clear_55 ?_
                    refine a_iinc (pc := 56) (v := 9) (al' := [some (.ref _), some (.int _)]) dX2_clear_56 rfl (by decide) (by decide) rfl rfl ?_
                    refine a_goto (pc := 59) (tgt := 43) dX2_clear_59 (by decide) ?_
                    refine a_iload_n (pc := 43) dX2_clear_43 rfl rfl ?_
                    refine a_bipush (pc := 44) (v := 9) dX2_clear_44 (by decide) ?_
                    refine a_icmp_gt (pc := 46) (tgt := 62) dX2_clear_46 (by decide) (fun c_46 => ?_) (fun c_46 => ?_)
                    · exact absurd c_46 (by decide)
                    · refine a_aload_n (pc := 49) dX2_clear_49 rfl rfl ?_
                      refine a_getr (pc := 50) fl_X2_9 (by assumption) (by decide) (by rfl) dX2_clear_50 ?_
                      refine a_iload_n (pc := 53) dX2_clear_53 rfl rfl ?_
                      refine a_iconst (pc := 54) (v := 0) dX2_clear_54 (by decide) ?_
                      refine a_iast (pc := 55) (j := 9) (by assumption) rfl (by omega) (by decide) dX2_clear_55 ?_
                      refine a_iinc (pc := 56) (v := 10) (al' := [some (.ref _), some (.int _)]) dX2_clear_56 rfl (by decide) (by decide) rfl rfl ?_
                      refine a_goto (pc := 59) (tgt := 43) dX2_clear_59 (by decide) ?_
                      refine a_iload_n (pc := 43) dX2_clear_43 rfl rfl ?_
                      refine a_bipush (pc := 44) (v := 9) dX2_clear_44 (by decide) ?_
                      refine a_icmp_gt (pc := 46) (tgt := 62) dX2_clear_46 (by decide) (fun c_46 => ?_) (fun c_46 => ?_)
                      · refine a_iconst (pc := 62) (v := 0) dX2_clear_62 (by decide) ?_
                        refine a_istore_n (pc := 63) (al' := [some (.ref _), some (.int _)]) dX2_clear_63 rfl (by decide) rfl rfl ?_
                        refine l_X2_clear hn (fun u h1 h3 => ⟨⟨?_, ?_, ?_, ?_, ?_, ?_, ?_, ?_, ?_, h3⟩, ?_⟩) 6 0 (by omega) _ (fun x hx => rfl) (fun j hj => by omega)
                        all_goals first | (rw [h1 n (by omega)]; simp [up2_ap]; done) | skip
                        · intro k hk
                          rw [h1 (n + 1) (by omega)]
                          have : k = 0 ∨ k = 1 ∨ k = 2 ∨ k = 3 ∨ k = 4 ∨ k = 5 ∨ k = 6 ∨ k = 7 ∨ k = 8 ∨ k = 9 := by omega
                          rcases this with rfl | rfl | rfl | rfl | rfl | rfl | rfl | rfl | rfl | rfl <;> simp [up2_ap]
                        · intro x hx
                          rw [h1 x (by omega)]
                          simp only [up2_ne (show x ≠ n by omega), up2_ne (show x ≠ n + 1 by omega)]
                      · exact absurd c_46 (by decide)

