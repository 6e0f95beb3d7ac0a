/-! a text is taken: first waits on both sides -/
def dfF (μ : Mem) (n : Nat) : Nat → Mem
  | 0 => μ
  | k + 1 => dwF (up2 (dfF μ n k) (stA n k) 1 (μ n 1)) n k
theorem dfF_x {μ : Mem} {n x : Nat} : ∀ k, (∀ j, j < k → x ≠ stA n j) → dfF μ n k x = μ x
  | 0, _ => rfl
  | k + 1, h => by
    show dwF (up2 (dfF μ n k) (stA n k) 1 (μ n 1)) n k x = μ x
    rw [dwF_ne (h k (by omega)), up2_ne (h k (by omega)), dfF_x k (fun j hj => h j (by omega))]
theorem dfF_n {μ : Mem} {n k : Nat} : dfF μ n k n = μ n := dfF_x k (fun j _ => by unfold stA; omega)
set_option maxHeartbeats 4000000 in
set_option maxRecDepth 100000 in
theorem l_X2_drawFirstWaits {μ : Mem} {n N : Nat} (hn : isNet n) (h0 : μ n 0 = nI N) (hN : N ≤ 6) {Q : Int32 → Mem → Prop} (hQ : Q 0 (dfF μ n N)) : ∀ d i : Nat, i + d = N → AW shC mX2_drawFirstWaits 2 [some (.ref n), some (.int (nI i))] [] (dfF μ n i) Q := by
  obtain ⟨hn0, hn1, hn2, hnS⟩ := id hn
  intro d
  induction d with
  | zero =>
    intro i hd
    refine a_iload_n (pc := 2) dX2_drawFirstWaits_2 rfl rfl ?_
    refine a_aload_n (pc := 3) dX2_drawFirstWaits_3 rfl rfl ?_
    refine a_geti (pc := 4) fl_X2_22 (by assumption) (by decide) (by rfl) dX2_drawFirstWaits_4 ?_
    refine a_top (y := nI N) (by rw [dfF_n]; exact h0) ?_
    refine a_icmp_ge (pc := 7) (tgt := 34) dX2_drawFirstWaits_7 (by decide) (fun c_7 => ?_) (fun c_7 => ?_)
    · have e : i = N := by omega
      subst e
      exact a_vret (pc := 34) rfl dX2_drawFirstWaits_34 hQ
    · exact absurd (lt_of_not_ge' (a := i) (b := N) (by omega) (by omega) c_7) (by omega)
  | succ d ih =>
    intro i hd
    have ws := hnS i (by omega)
    have w0 := ws.1
    refine a_iload_n (pc := 2) dX2_drawFirstWaits_2 rfl rfl ?_
    refine a_aload_n (pc := 3) dX2_drawFirstWaits_3 rfl rfl ?_
    refine a_geti (pc := 4) fl_X2_22 (by assumption) (by decide) (by rfl) dX2_drawFirstWaits_4 ?_
    refine a_top (y := nI N) (by rw [dfF_n]; exact h0) ?_
    refine a_icmp_ge (pc := 7) (tgt := 34) dX2_drawFirstWaits_7 (by decide) (fun c_7 => ?_) (fun c_7 => ?_)
    · exact absurd (le_of_ge' (a := i) (b := N) (by omega) (by omega) c_7) (by omega)
    · refine a_aload_n (pc := 10) dX2_drawFirstWaits_10 rfl rfl ?_
      refine a_getr (pc := 11) fl_X2_17 (by assumption) (by decide) (by rfl) dX2_drawFirstWaits_11 ?_
      refine a_iload_n (pc := 14) dX2_drawFirstWaits_14 rfl rfl ?_
      refine a_aald2 (pc := 15)  (by assumption) rfl (by omega) (by decide) (all_at (by omega)) dX2_drawFirstWaits_15 ?_
      refine a_aload_n (pc := 16) dX2_drawFirstWaits_16 rfl rfl ?_
      refine a_geti (pc := 17) fl_X2_26 (by assumption) (by decide) (by rfl) dX2_drawFirstWaits_17 ?_
      refine a_top (y := μ n 1) (by rw [dfF_n]) ?_
      refine a_puti (pc := 20) fp_X2_74 (by assumption) (by decide) (by rfl) dX2_drawFirstWaits_20 ?_
      refine a_aload_n (pc := 23) dX2_drawFirstWaits_23 rfl rfl ?_
      refine a_iload_n (pc := 24) dX2_drawFirstWaits_24 rfl rfl ?_
      refine a_callV1 (pc := 25) ck_X2_77 ⟨(Nat.le_of_ble_eq_true rfl), (Nat.le_of_ble_eq_true rfl)⟩ (by assumption) (by decide) (Nat.le_of_ble_eq_true rfl) dX2_drawFirstWaits_25 rfl (c_X2_drawWait hn (by omega)) ?_
      rintro u rfl
      refine a_iincN (pc := 28) (m := 1) (al' := [some (.ref _), some (.int _)]) dX2_drawFirstWaits_28 rfl (by decide) rfl rfl ?_
      refine a_goto (pc := 31) (tgt := 2) dX2_drawFirstWaits_31 (by decide) ?_
      exact ih (i + 1) (by omega)
set_option maxHeartbeats 4000000 in
set_option maxRecDepth 100000 in
theorem c_X2_drawFirstWaits {μ : Mem} {n N : Nat} (hn : isNet n) (h0 : μ n 0 = nI N) (hN : N ≤ 6) : Con shC mX2_drawFirstWaits [.ref n] μ (fun _ u => u = dfF μ n N) := by
  refine Con.ofAW (al0 := [some (.ref n), none]) (by decide) rfl (Nat.le_of_ble_eq_true rfl) rfl ?_
  refine a_iconst (pc := 0) (v := 0) dX2_drawFirstWaits_0 (by decide) ?_
  refine a_istore_n (pc := 1) (al' := [some (.ref _), some (.int _)]) dX2_drawFirstWaits_1 rfl (by decide) rfl rfl ?_
  exact l_X2_drawFirstWaits hn h0 hN rfl N 0 (by omega)

def twF (f : Nat → Int32) (L : Int32) : Nat → Nat → Int32
  | 0 => f
  | k + 1 => cmsF (upd (twF f L k) (70 * k) L) 0 k
theorem twF_j {f : Nat → Int32} {L : Int32} {j : Nat} : ∀ k, (∀ i, i < k → j < 70 * i ∨ 70 * i + 70 ≤ j) → twF f L k j = f j
  | 0, _ => rfl
  | k + 1, h => by
    have := h k (by omega)
    show cmsF (upd (twF f L k) (70 * k) L) 0 k j = f j
    rw [cms_out this, upd_ne (by omega), twF_j k (fun i hi => h i (by omega))]
def tkF (ν : Mem) (N : Nat) : Mem := upA (up2 (up2 (up2 (up2 (up2 (up2 ν 0 2 (nI N)) 0 3 (ν 4 0)) 0 4 (ν 4 1)) 0 5 (ν 4 2)) 0 6 (ν 4 3)) 0 9 0) 2 (twF (cpsF (ν 2) 2 0) (ν 4 0) N)
set_option maxHeartbeats 4000000 in
set_option maxRecDepth 100000 in
theorem l_X7_takes {ν : Mem} {N : Nat} {f : Nat → Int32} {L : Int32} (h2 : ν 0 2 = nI N) (h3 : ν 0 3 = L) (hL : ¬ L = 0) (hN : N ≤ 6) {Q : Int32 → Mem → Prop} (hQ : Q 0 (upA ν 2 (twF f L N))) : ∀ d i : Nat, i + d = N → AW shM mX7_takes 61 [some (.ref 0), some (.int (nI i))] [] (upA ν 2 (twF f L i)) Q := by
  have m0 : shM[0]? = some (7, 18, [none, some 1, none, none, none, none, none, some 2, some 3, none, none, some 4, none, none, some 5, some 6, some 7, some 8]) := rfl
  have m1 : shM[1]? = some (100, 200, []) := rfl
  have m2 : shM[2]? = some (100, 1320, []) := rfl
  have m3 : shM[3]? = some (100, 1760, []) := rfl
  have m4 : shM[4]? = some (100, 4, []) := rfl
  have m5 : shM[5]? = some (100, 6, []) := rfl
  have m6 : shM[6]? = some (100, 6, []) := rfl
  have m7 : shM[7]? = some (100, 6, []) := rfl
  have m8 : shM[8]? = some (100, 6, []) := rfl
  intro d
  induction d with
  | zero =>
    intro i hd
    refine a_iload_n (pc := 61) dX7_takes_61 rfl rfl ?_
    refine a_aload_n (pc := 62) dX7_takes_62 rfl rfl ?_
    refine a_geti (pc := 63) fl_X7_56 (by assumption) (by decide) (by rfl) dX7_takes_63 ?_
    refine a_top (y := nI N) (by rw [upA_ne (by omega)]; exact h2) ?_
    refine a_icmp_ge (pc := 66) (tgt := 97) dX7_takes_66 (by decide) (fun c_66 => ?_) (fun c_66 => ?_)
    · have e : i = N := by omega
      subst e
      exact a_vret (pc := 97) rfl dX7_takes_97 hQ
    · exact absurd (lt_of_not_ge' (a := i) (b := N) (by omega) (by omega) c_66) (by omega)
  | succ d ih =>
    intro i hd
    refine a_iload_n (pc := 61) dX7_takes_61 rfl rfl ?_
    refine a_aload_n (pc := 62) dX7_takes_62 rfl rfl ?_
    refine a_geti (pc := 63) fl_X7_56 (by assumption) (by decide) (by rfl) dX7_takes_63 ?_
    refine a_top (y := nI N) (by rw [upA_ne (by omega)]; exact h2) ?_
    refine a_icmp_ge (pc := 66) (tgt := 97) dX7_takes_66 (by decide) (fun c_66 => ?_) (fun c_66 => ?_)
    · exact absurd (le_of_ge' (a := i) (b := N) (by omega) (by omega) c_66) (by omega)
    · refine a_aload_n (pc := 69) dX7_takes_69 rfl rfl ?_
      refine a_getr (pc := 70) fl_X7_13 (by assumption) (by decide) (by rfl) dX7_takes_70 ?_
      refine a_iconst (pc := 73) (v := 0) dX7_takes_73 (by decide) ?_
      refine a_iload_n (pc := 74) dX7_takes_74 rfl rfl ?_
      refine a_callS2 (pc := 75) cs_X7_52 ⟨(Nat.le_of_ble_eq_true rfl), (Nat.le_of_ble_eq_true rfl)⟩ (Nat.le_of_ble_eq_true rfl) dX7_takes_75 rfl (c_X7_at (r := 0)) ?_
      rintro r_ u ⟨rfl, rfl⟩
      refine a_iconst (pc := 78) (v := 0) dX7_takes_78 (by decide) ?_
      refine a_iaddN (pc := 79) (a := _) (b := 0) rfl rfl dX7_takes_79 ?_
      refine a_aload_n (pc := 80) dX7_takes_80 rfl rfl ?_
      refine a_geti (pc := 81) fl_X7_59 (by assumption) (by decide) (by rfl) dX7_takes_81 ?_
      refine a_top (y := L) (by rw [upA_ne (by omega)]; exact h3) ?_
      refine a_iast (pc := 84)  (by assumption) rfl (by omega) (by decide) dX7_takes_84 ?_
      refine a_aload_n (pc := 85) dX7_takes_85 rfl rfl ?_
      refine a_iconst (pc := 86) (v := 0) dX7_takes_86 (by decide) ?_
      refine a_iload_n (pc := 87) dX7_takes_87 rfl rfl ?_
      refine a_callV2 (pc := 88) ck_X7_78 ⟨(Nat.le_of_ble_eq_true rfl), (Nat.le_of_ble_eq_true rfl)⟩ (by assumption) (by decide) (Nat.le_of_ble_eq_true rfl) dX7_takes_88 rfl (c_X7_comes (r := 0) (by omega) (by omega) (by rw [Nat.add_zero, up2_at]; exact hL)) ?_
      rintro u rfl
      refine a_iincN (pc := 91) (m := 1) (al' := [some (.ref _), some (.int _)]) dX7_takes_91 rfl (by decide) rfl rfl ?_
      refine a_goto (pc := 94) (tgt := 61) dX7_takes_94 (by decide) ?_
      refine AW.cast (ih (i + 1) (by omega)) rfl rfl rfl ?_
      rw [up2_upA, upA_upA, upA_at]
      show upA ν 2 (cmsF (upd (twF f L i) (70 * i) L) 0 i) = _
      simp only [Nat.mul_zero, Nat.zero_add, Nat.add_zero]
set_option maxHeartbeats 4000000 in
set_option maxRecDepth 100000 in
theorem c_X7_takes {ν : Mem} {N : Nat} (h10 : ν 0 10 = nI N) (hN : N ≤ 6) (hL : ¬ ν 4 0 = 0) : Con shM mX7_takes [.ref 0] ν (fun _ u => u = tkF ν N) := by
  have m0 : shM[0]? = some (7, 18, [none, some 1, none, none, none, none, none, some 2, some 3, none, none, some 4, none, none, some 5, some 6, some 7, some 8]) := rfl
  have m1 : shM[1]? = some (100, 200, []) := rfl
  have m2 : shM[2]? = some (100, 1320, []) := rfl
  have m3 : shM[3]? = some (100, 1760, []) := rfl
  have m4 : shM[4]? = some (100, 4, []) := rfl
  have m5 : shM[5]? = some (100, 6, []) := rfl
  have m6 : shM[6]? = some (100, 6, []) := rfl
  have m7 : shM[7]? = some (100, 6, []) := rfl
  have m8 : shM[8]? = some (100, 6, []) := rfl
  refine Con.ofAW (al0 := [some (.ref 0), none]) (by decide) rfl (Nat.le_of_ble_eq_true rfl) rfl ?_
  refine a_aload_n (pc := 0) dX7_takes_0 rfl rfl ?_
  refine a_aload_n (pc := 1) dX7_takes_1 rfl rfl ?_
  refine a_geti (pc := 2) fl_X7_37 (by assumption) (by decide) (by rfl) dX7_takes_2 ?_
  refine a_top (y := nI N) h10 ?_
  refine a_puti (pc := 5) fp_X7_56 (by assumption) (by decide) (by rfl) dX7_takes_5 ?_
  refine a_aload_n (pc := 8) dX7_takes_8 rfl rfl ?_
  refine a_aload_n (pc := 9) dX7_takes_9 rfl rfl ?_
  refine a_getr (pc := 10) fl_X7_19 (by assumption) (by decide) (by rfl) dX7_takes_10 ?_
  refine a_iconst (pc := 13) (v := 0) dX7_takes_13 (by decide) ?_
  refine a_iald (pc := 14) (j := 0) (by assumption) rfl (by omega) (by decide) dX7_takes_14 ?_
  refine a_top (y := ν 4 0) (by rw [up2_ne (by omega)]) ?_
  refine a_puti (pc := 15) fp_X7_59 (by assumption) (by decide) (by rfl) dX7_takes_15 ?_
  refine a_aload_n (pc := 18) dX7_takes_18 rfl rfl ?_
  refine a_aload_n (pc := 19) dX7_takes_19 rfl rfl ?_
  refine a_getr (pc := 20) fl_X7_19 (by assumption) (by decide) (by rfl) dX7_takes_20 ?_
  refine a_iconst (pc := 23) (v := 1) dX7_takes_23 (by decide) ?_
  refine a_iald (pc := 24) (j := 1) (by assumption) rfl (by omega) (by decide) dX7_takes_24 ?_
  refine a_top (y := ν 4 1) (by rw [up2_ne (by omega), up2_ne (by omega)]) ?_
  refine a_puti (pc := 25) fp_X7_62 (by assumption) (by decide) (by rfl) dX7_takes_25 ?_
  refine a_aload_n (pc := 28) dX7_takes_28 rfl rfl ?_
  refine a_aload_n (pc := 29) dX7_takes_29 rfl rfl ?_
  refine a_getr (pc := 30) fl_X7_19 (by assumption) (by decide) (by rfl) dX7_takes_30 ?_
  refine a_iconst (pc := 33) (v := 2) dX7_takes_33 (by decide) ?_
  refine a_iald (pc := 34) (j := 2) (by assumption) rfl (by omega) (by decide) dX7_takes_34 ?_
  refine a_top (y := ν 4 2) (by rw [up2_ne (by omega), up2_ne (by omega), up2_ne (by omega)]) ?_
  refine a_puti (pc := 35) fp_X7_65 (by assumption) (by decide) (by rfl) dX7_takes_35 ?_
  refine a_aload_n (pc := 38) dX7_takes_38 rfl rfl ?_
  refine a_aload_n (pc := 39) dX7_takes_39 rfl rfl ?_
  refine a_getr (pc := 40) fl_X7_19 (by assumption) (by decide) (by rfl) dX7_takes_40 ?_
  refine a_iconst (pc := 43) (v := 3) dX7_takes_43 (by decide) ?_
  refine a_iald (pc := 44) (j := 3) (by assumption) rfl (by omega) (by decide) dX7_takes_44 ?_
  refine a_top (y := ν 4 3) (by rw [up2_ne (by omega), up2_ne (by omega), up2_ne (by omega), up2_ne (by omega)]) ?_
  refine a_puti (pc := 45) fp_X7_68 (by assumption) (by decide) (by rfl) dX7_takes_45 ?_
  refine a_aload_n (pc := 48) dX7_takes_48 rfl rfl ?_
  refine a_iconst (pc := 49) (v := 2) dX7_takes_49 (by decide) ?_
  refine a_iconst (pc := 50) (v := 0) dX7_takes_50 (by decide) ?_
  refine a_callV2 (pc := 51) ck_X7_71 ⟨(Nat.le_of_ble_eq_true rfl), (Nat.le_of_ble_eq_true rfl)⟩ (by assumption) (by decide) (Nat.le_of_ble_eq_true rfl) dX7_takes_51 rfl (c_X7_copies (a := 2) (b := 0) (by omega) (by omega) (by omega)) ?_
  rintro u rfl
  refine a_aload_n (pc := 54) dX7_takes_54 rfl rfl ?_
  refine a_iconst (pc := 55) (v := 0) dX7_takes_55 (by decide) ?_
  refine a_puti (pc := 56) fp_X7_75 (by assumption) (by decide) (by rfl) dX7_takes_56 ?_
  refine a_iconst (pc := 59) (v := 0) dX7_takes_59 (by decide) ?_
  refine a_istore_n (pc := 60) (al' := [some (.ref _), some (.int _)]) dX7_takes_60 rfl (by decide) rfl rfl ?_
  refine AW.cast (l_X7_takes (ν := up2 (up2 (up2 (up2 (up2 (up2 ν 0 2 (nI N)) 0 3 (ν 4 0)) 0 4 (ν 4 1)) 0 5 (ν 4 2)) 0 6 (ν 4 3)) 0 9 0) (f := cpsF (ν 2) 2 0) (L := ν 4 0) (by simp [up2_ap]) (by simp [up2_ap]) hL hN rfl N 0 (by omega)) rfl rfl rfl ?_
  funext x k
  simp only [twF, up2_ap, upA_ap]
  by_cases h2 : x = 2
  · subst h2; simp [up2_ne]
  · by_cases h0 : x = 0
    · subst h0; simp [up2_ap]
    · simp [h2, h0, up2_ap]

theorem cps_0 {f : Nat → Int32} {j : Nat} (h : j < 440) : cpsF f 2 0 j = f (880 + j) := by
  unfold cpsF; rw [if_pos (by omega)]; congr 1; omega
theorem RSt.mv {μ u : Mem} {o : Nat} {f g : Nat → Int32} {c c' s : Nat} (h1 : ∀ k, 1 ≤ k → u o k = μ o k) (h2 : ∀ d, 1 ≤ d → d ≤ 6 → u (o + d) = μ (o + d)) (h3 : ∀ k, k < 70 → g (c' + k) = f (c + k)) (h : RSt μ o f c s) : RSt u o g c' s := by
  obtain ⟨a1, a2, a3, a4, a5, a6, a7, a8⟩ := h
  refine ⟨fun k k1 k2 => by rw [h1 k k1]; exact a1 k k1 k2, by rw [h2 1 (by omega) (by omega)]; exact a2, by rw [h3 8 (by omega)]; exact a3, a4, fun k hk => ?_, by rw [h2 4 (by omega) (by omega)]; exact a6, fun k hk => by rw [h2 6 (by omega) (by omega)]; exact a7 k hk, fun k k1 k2 => by rw [h3 k k1]; exact a8 k k1 k2⟩
  have := a5 k hk
  rw [show c + 9 + 2 * k = c + (9 + 2 * k) by omega, show c + (9 + 2 * k) + 1 = c + (10 + 2 * k) by omega] at this
  rw [h2 2 (by omega) (by omega), h2 3 (by omega) (by omega), show c' + 9 + 2 * k = c' + (9 + 2 * k) by omega, show c' + (9 + 2 * k) + 1 = c' + (10 + 2 * k) by omega, h3 _ (by omega), h3 _ (by omega)]
  exact this
theorem take_RA {μ : Mem} {f : Nat → Int32} {i s z l : Nat} (hi : i < 6) (hz : μ 53 5 = nI z) (hz2 : f 428 = nI z) (hz3 : z ≤ 9999) (hl : μ 53 1 = nI l) (hl1 : 1 ≤ l) (hl2 : l ≤ 64) (h : RSt μ (stA 53 i) f (70 * i) s) :
    RA (dwF (up2 μ (stA 53 i) 1 (nI l)) 53 i) (stA 53 i) (cmsF (upd f (70 * i) (nI l)) 0 i) (70 * i) 0 1 := by
  obtain ⟨a1, a2, a3, a4, a5, a6, a7, a8⟩ := h
  have hn : (53 : Nat) ≠ stA 53 i := by unfold stA; omega
  have u1 : ∀ k, k ≠ 1 → up2 μ (stA 53 i) 1 (nI l) (stA 53 i) k = μ (stA 53 i) k := fun k hk => up2_k hk
  have ux : ∀ d, 1 ≤ d → up2 μ (stA 53 i) 1 (nI l) (stA 53 i + d) = μ (stA 53 i + d) := fun d hd => up2_ne (by omega)
  have g : ∀ k, 1 ≤ k → upd f (70 * i) (nI l) (70 * i + k) = f (70 * i + k) := fun k hk => upd_ne (by omega)
  have q8 : ∀ k, k < 70 → (k < 8 ∨ 21 ≤ k) → 1 ≤ k → upd f (70 * i) (nI l) (70 * i + k) = 0 := fun k k1 k2 k3 => by rw [g k k3]; exact a8 k k1 k2
  have z0 : ∀ k, 1 ≤ k → k < 15 → k ≠ 1 → up2 μ (stA 53 i) 1 (nI l) (stA 53 i) k = 0 := fun k k1 k2 k3 => by rw [u1 k k3]; exact a1 k k1 k2
  have hs0 : SR0 (up2 μ (stA 53 i) 1 (nI l)) (stA 53 i) (upd f (70 * i) (nI l)) (70 * i) 0 := by
    unfold SR0
    rw [up2_at, upd_at, z0 2 (by omega) (by omega) (by omega), z0 4 (by omega) (by omega) (by omega), z0 5 (by omega) (by omega) (by omega), z0 6 (by omega) (by omega) (by omega), z0 7 (by omega) (by omega) (by omega), z0 8 (by omega) (by omega) (by omega), ux 1 (by omega), ux 2 (by omega), ux 3 (by omega), ux 4 (by omega), ux 5 (by omega), q8 1 (by omega) (by omega) (by omega), q8 3 (by omega) (by omega) (by omega), q8 4 (by omega) (by omega) (by omega), q8 5 (by omega) (by omega) (by omega), q8 6 (by omega) (by omega) (by omega), q8 7 (by omega) (by omega) (by omega), g 8 (by omega), q8 33 (by omega) (by omega) (by omega)]
    refine ⟨⟨rfl, rfl, rfl, rfl, rfl, rfl, rfl, a2.trans a3.symm, a6⟩, ⟨l, rfl, hl1, hl2⟩, ⟨0, rfl, by omega⟩, ⟨0, rfl, by omega⟩, ⟨s, a2, a4, fun k hk => ?_⟩, ⟨0, a6, by omega, fun k hk => by omega⟩⟩
    rw [upd_ne (by omega), upd_ne (by omega)]; exact a5 k hk
  have hcm := cm_rel (b := 0) (D := 0) (f := upd f (70 * i) (nI l)) hi (by rw [up2_ne hn]; exact hz) (by rw [Nat.zero_add, upd_ne (by omega)]; exact hz2) hz3 (by omega) (by rw [Nat.zero_add]; exact hs0) (z0 9 (by omega) (by omega) (by omega)) (z0 10 (by omega) (by omega) (by omega)) (z0 11 (by omega) (by omega) (by omega))
  rw [Nat.zero_add] at hcm
  obtain ⟨k1, k2, k3⟩ := hcm
  have ck : ∀ k, k < 70 → (k < 8 ∨ 21 ≤ k) → 1 ≤ k → k ≠ 2 → k ≠ 7 → k ≠ 26 → k ≠ 28 → k ≠ 29 → cmsF (upd f (70 * i) (nI l)) 0 i (70 * i + k) = 0 := fun k h1 h2 h3 h4 h5 h6 h7 h8 => by
    have := cms_k (f := upd f (70 * i) (nI l)) (b := 0) (i := i) h4 h5 h6 h7 h8
    rw [Nat.zero_add] at this
    rw [this]; exact q8 k h1 h2 h3
  have d6 : dwF (up2 μ (stA 53 i) 1 (nI l)) 53 i (stA 53 i + 6) 0 = 0 := by rw [dwF_ne (by omega), ux 6 (by omega)]; exact a7 0 (by omega)
  have dk : ∀ k, 1 ≤ k → k < 15 → k ≠ 1 → k ≠ 3 → k ≠ 8 → dwF (up2 μ (stA 53 i) 1 (nI l)) 53 i (stA 53 i) k = 0 := fun k h1 h2 h3 h4 h5 => by rw [dwF_k h4 h5]; exact z0 k h1 h2 h3
  refine ⟨k1, Or.inl ⟨k2, k3⟩, ⟨0, 0, ck 21 (by omega) (by omega) (by omega) (by omega) (by omega) (by omega) (by omega) (by omega), ck 24 (by omega) (by omega) (by omega) (by omega) (by omega) (by omega) (by omega) (by omega), by omega, by omega, Or.inl ⟨d6, by omega, by omega⟩⟩, ⟨0, 0, dk 14 (by omega) (by omega) (by omega) (by omega) (by omega), ck 32 (by omega) (by omega) (by omega) (by omega) (by omega) (by omega) (by omega) (by omega), by omega, by omega, fun fr q hq => ?_⟩, fun q => absurd k2 q⟩
  rw [dk 12 (by omega) (by omega) (by omega) (by omega) (by omega), dk 13 (by omega) (by omega) (by omega) (by omega) (by omega), ck 30 (by omega) (by omega) (by omega) (by omega) (by omega) (by omega) (by omega) (by omega), ck 31 (by omega) (by omega) (by omega) (by omega) (by omega) (by omega) (by omega) (by omega)]
theorem dfF_at {μ : Mem} {i : Nat} : ∀ N, i < N → ∀ x, stA 53 i ≤ x → x ≤ stA 53 i + 6 → dfF μ 53 N x = dwF (up2 (dfF μ 53 i) (stA 53 i) 1 (μ 53 1)) 53 i x
  | 0, h, _, _, _ => by omega
  | N + 1, h, x, h1, h2 => by
    by_cases e : i = N
    · subst e; rfl
    · show dwF (up2 (dfF μ 53 N) (stA 53 N) 1 (μ 53 1)) 53 N x = _
      have hx : x ≠ stA 53 N := by unfold stA at h1 h2 ⊢; omega
      rw [dwF_ne hx, up2_ne hx]
      exact dfF_at N (by omega) x h1 h2
theorem twF_at {f : Nat → Int32} {L : Int32} {i : Nat} : ∀ N, i < N → ∀ j, 70 * i ≤ j → j < 70 * i + 70 → twF f L N j = cmsF (upd (twF f L i) (70 * i) L) 0 i j
  | 0, h, _, _, _ => by omega
  | N + 1, h, j, h1, h2 => by
    by_cases e : i = N
    · subst e; rfl
    · show cmsF (upd (twF f L N) (70 * N) L) 0 N j = _
      rw [cms_out (by omega), upd_ne (by omega)]
      exact twF_at N (by omega) j h1 h2
/-- what is read is taken alike -/
theorem take_rel {μ ν : Mem} {N p : Nat} {hm sz : Nat → Nat} (hN : RN μ ν N p) (hU : RU μ ν) (hZ : RZ μ ν) (hK : RK μ ν) (hH : RH μ ν hm) (hS : RS μ ν sz) (h2 : 2 ≤ N) : NB (dfF μ 53 N) 53 (tkF ν N) 0 N 0 1 ∧ BLn (dfF μ 53 N) 53 := by
  obtain ⟨n1, n2, n3, n4⟩ := hN
  obtain ⟨⟨l, l1, l2, l3, l4⟩, ⟨m, m1, m2, m3, m4⟩, r3, ⟨r, r1, r2, r4⟩⟩ := hU
  obtain ⟨z, z1, z2, z3⟩ := hZ
  obtain ⟨k1, k2, k3, k4, k5, k6⟩ := hK
  have e53 : dfF μ 53 N 53 = μ 53 := dfF_n
  have e54 : dfF μ 53 N 54 = μ 54 := dfF_x N (fun j _ => by unfold stA; omega)
  have t0 : ∀ k, tkF ν N 0 k = up2 (up2 (up2 (up2 (up2 (up2 ν 0 2 (nI N)) 0 3 (ν 4 0)) 0 4 (ν 4 1)) 0 5 (ν 4 2)) 0 6 (ν 4 3)) 0 9 0 0 k := fun k => by unfold tkF; rw [upA_ne (by omega)]
  have t2 : tkF ν N 2 = twF (cpsF (ν 2) 2 0) (ν 4 0) N := by unfold tkF; rw [upA_at]
  have tj : ∀ j, 420 ≤ j → j < 440 → tkF ν N 2 j = ν 2 (880 + j) := fun j h1 h2 => by rw [t2, twF_j N (fun i hi => Or.inr (by omega)), cps_0 h2]
  have hRA : ∀ i, i < N → RA (dfF μ 53 N) (stA 53 i) (tkF ν N 2) (0 + 70 * i) 0 1 := by
    intro i hi
    have q := take_RA (μ := dfF μ 53 i) (f := twF (cpsF (ν 2) 2 0) (ν 4 0) i) (s := sz i) (l := l) (by omega) (by rw [dfF_n]; exact z1) (by rw [twF_j i (fun k _ => Or.inr (by omega)), cps_0 (by omega)]; exact z2) z3 (by rw [dfF_n]; exact l1) l3 l4 ((hS i (by omega)).mv ?_ ?_ ?_)
    · rw [Nat.zero_add, t2]
      refine RA.frame (fun x h1 h2 => ?_) (fun j h1 h2 => ?_) q
      · rw [dfF_at N hi x h1 h2, l1]
      · rw [twF_at N hi j h1 h2, l2]
    · intro k _; rw [dfF_x i (fun j _ => by unfold stA; omega)]
    · intro d _ _; exact dfF_x i (fun j _ => by unfold stA; omega)
    · intro k hk; rw [twF_j i (fun j _ => by omega), cps_0 (by omega), Nat.add_assoc]
  refine ⟨⟨⟨⟨by rw [e53]; exact n1, by rw [t0]; simp [up2_ap], h2, n3, ⟨l, by rw [e53]; exact l1, by rw [t0]; simp [up2_ap]; exact l2, l3, l4⟩, ⟨m, by rw [e53]; exact m1, by rw [t0]; simp [up2_ap]; exact m2, m3, m4⟩, by rw [t0, e53]; simp [up2_ap]; exact r3, ⟨r, by rw [e53]; exact r1, by rw [t0]; simp [up2_ap]; exact r2, r4⟩⟩, ⟨z, by rw [e53]; exact z1, by rw [tj _ (by omega) (by omega)]; exact z2, z3⟩, by rw [e53]; exact k1, by rw [tj _ (by omega) (by omega)]; exact k2, by rw [e53, tj _ (by omega) (by omega), k3]; exact k4.symm, fun k q1 q2 => by rw [e54, tj _ (by omega) (by omega), k5 k (by omega), show 880 + (0 + 429 + k) = 1309 + k by omega]; exact (k6 k q1 q2).symm, ⟨hm, fun i hi => ⟨(hH.1 i (by omega)).1, ?_, by rw [tj _ (by omega) (by omega), show 880 + (0 + 420 + i) = 1300 + i by omega]; exact (hH.1 i (by omega)).2.2⟩, fun i j hi hj => hH.2.1 i j (by omega) (by omega)⟩, hRA⟩, fun k q1 q2 => ⟨0, by rw [e54]; exact k5 k (by omega), by omega⟩⟩, fun i hi => ?_⟩
  · rw [dfF_at N hi _ (by omega) (by omega), dwF_k (by omega) (by omega), up2_k (by omega), dfF_x i (fun j _ => by unfold stA; omega)]
    exact (hH.1 i (by omega)).2.1
  · rcases Nat.lt_or_ge i N with h | h
    · exact (hRA i h).1.2.2.2.2.2.2
    · rw [dfF_x N (fun j hj => by unfold stA; omega)]; exact Or.inl ((hS i hi).1 10 (by omega) (by omega))

