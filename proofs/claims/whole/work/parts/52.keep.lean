/-! remember and keeps; undo -/
theorem net_pst {j : Nat} (h : j < 4) : isNet (pst j) := by
  rcases (show j = 0 ∨ j = 1 ∨ j = 2 ∨ j = 3 by omega) with rfl | rfl | rfl | rfl
  · exact net_107
  · exact net_158
  · exact net_209
  · exact net_260
theorem past_at {j : Nat} (h : j < 4) : [some 107, some 158, some 209, some 260][j]? = some (some (pst j)) := by
  rcases (show j = 0 ∨ j = 1 ∨ j = 2 ∨ j = 3 by omega) with rfl | rfl | rfl | rfl <;> rfl
theorem mmin4 {c : Nat} (h : c ≤ 4) : (if (4 : Int32) < nI (c + 1) then 4 else nI (c + 1)) = nI (if c = 4 then 4 else c + 1) := by
  have : ∀ c, c < 5 → (if (4 : Int32) < nI (c + 1) then 4 else nI (c + 1)) = nI (if c = 4 then 4 else c + 1) := by decide +kernel
  exact this c (by omega)
set_option maxHeartbeats 4000000 in
set_option maxRecDepth 100000 in
theorem c_X6_remember {μ : Mem} {c p : Nat} (h6 : μ 0 6 = nI c) (hc4 : c ≤ 4) (h7 : μ 0 7 = nI p) (hp4 : p < 4) (hb : BLn μ 2) : Con shC mX6_remember [.ref 0] μ (fun _ u => ∃ v, NCP v (pst p) μ 2 ∧ (∀ x, (x < pst p ∨ pst p + 50 < x) → v x = μ x) ∧ u = up2 (up2 v 0 7 (nI ((p + 1) % 4))) 0 6 (nI (if c = 4 then 4 else c + 1))) := by
  have z0 : shC[0]? = some (6, 8, [some 1, none, some 2, some 53, some 104, some 106, none, none]) := rfl
  have hn := net_2
  obtain ⟨hn0, hn1, hn2, hnS⟩ := id hn
  have z6 : shC[106]? = some (103, 4, [some 107, some 158, some 209, some 260]) := rfl
  have hp := net_pst hp4
  have hp0 := hp.1
  refine Con.ofAW (al0 := [some (.ref 0)]) (by decide) rfl (Nat.le_of_ble_eq_true rfl) rfl ?_
  refine a_aload_n (pc := 0) dX6_remember_0 rfl rfl ?_
  refine a_getr (pc := 1) fl_X6_32 (by assumption) (by decide) (by rfl) dX6_remember_1 ?_
  refine a_aload_n (pc := 4) dX6_remember_4 rfl rfl ?_
  refine a_geti (pc := 5) fl_X6_122 (by assumption) (by decide) (by rfl) dX6_remember_5 ?_
  refine a_top (y := nI p) h7 ?_
  refine a_aald3 (pc := 8)  (by assumption) rfl (by omega) (by decide) (past_at hp4) dX6_remember_8 ?_
  refine a_aload_n (pc := 9) dX6_remember_9 rfl rfl ?_
  refine a_getr (pc := 10) fl_X6_16 (by assumption) (by decide) (by rfl) dX6_remember_10 ?_
  refine a_callV1 (pc := 13) ck_X6_125 ⟨(Nat.le_of_ble_eq_true rfl), (Nat.le_of_ble_eq_true rfl)⟩ (by assumption) (by decide) (Nat.le_of_ble_eq_true rfl) dX6_remember_13 rfl (c_X2_copyFrom hp hn (Or.inl (by unfold pst; omega)) hb) ?_
  rintro v ⟨hC, hF⟩
  have e6 : v 0 6 = nI c := by rw [hF 0 (Or.inl (by unfold pst; omega))]; exact h6
  have e7 : v 0 7 = nI p := by rw [hF 0 (Or.inl (by unfold pst; omega))]; exact h7
  refine a_aload_n (pc := 16) dX6_remember_16 rfl rfl ?_
  refine a_aload_n (pc := 17) dX6_remember_17 rfl rfl ?_
  refine a_geti (pc := 18) fl_X6_122 (by assumption) (by decide) (by rfl) dX6_remember_18 ?_
  refine a_top (y := nI p) e7 ?_
  refine a_iconst (pc := 21) (v := 3) dX6_remember_21 (by decide) ?_
  refine a_icmp_ne (pc := 22) (tgt := 29) dX6_remember_22 (by decide) (fun c_22 => ?_) (fun c_22 => ?_)
  · refine a_aload_n (pc := 29) dX6_remember_29 rfl rfl ?_
    refine a_geti (pc := 30) fl_X6_122 (by assumption) (by decide) (by rfl) dX6_remember_30 ?_
    refine a_top (y := nI p) e7 ?_
    refine a_iconst (pc := 33) (v := 1) dX6_remember_33 (by decide) ?_
    refine a_iaddN (pc := 34) (a := _) (b := 1) rfl rfl dX6_remember_34 ?_
    refine a_puti (pc := 35) fp_X6_122 (by assumption) (by decide) (by rfl) dX6_remember_35 ?_
    refine a_aload_n (pc := 38) dX6_remember_38 rfl rfl ?_
    refine a_aload_n (pc := 39) dX6_remember_39 rfl rfl ?_
    refine a_geti (pc := 40) fl_X6_119 (by assumption) (by decide) (by rfl) dX6_remember_40 ?_
    refine a_top (y := nI c) (by rw [up2_k (by omega)]; exact e6) ?_
    refine a_iconst (pc := 43) (v := 1) dX6_remember_43 (by decide) ?_
    refine a_iaddN (pc := 44) (a := _) (b := 1) rfl rfl dX6_remember_44 ?_
    refine a_iconst (pc := 45) (v := 4) dX6_remember_45 (by decide) ?_
    refine a_mmin (pc := 46) nl_X6_218 nw_min1 nw_math nw_min3 (Nat.le_of_ble_eq_true rfl) (Nat.le_of_ble_eq_true rfl) dX6_remember_46 ?_
    refine a_top (y := nI (if c = 4 then 4 else c + 1)) (mmin4 hc4) ?_
    refine a_puti (pc := 49) fp_X6_119 (by assumption) (by decide) (by rfl) dX6_remember_49 ?_
    refine a_vret (pc := 52) rfl dX6_remember_52 ?_
    first
    | (have e : p = 3 := Classical.byContradiction fun q => absurd c_22 (by first | exact not_not_intro (nI_ne (b := 3) (by omega) (by omega) q) | exact nI_ne (b := 3) (by omega) (by omega) q)
       subst e
       exact ⟨v, hC, hF, rfl⟩)
    | (have e : p ≠ 3 := fun q => absurd c_22 (by subst q; exact not_not_intro rfl)
       rw [show (p + 1) % 4 = p + 1 by omega]
       exact ⟨v, hC, hF, rfl⟩)
  · refine a_iconst (pc := 25) (v := 0) dX6_remember_25 (by decide) ?_
    refine a_goto (pc := 26) (tgt := 35) dX6_remember_26 (by decide) ?_
    refine a_puti (pc := 35) fp_X6_122 (by assumption) (by decide) (by rfl) dX6_remember_35 ?_
    refine a_aload_n (pc := 38) dX6_remember_38 rfl rfl ?_
    refine a_aload_n (pc := 39) dX6_remember_39 rfl rfl ?_
    refine a_geti (pc := 40) fl_X6_119 (by assumption) (by decide) (by rfl) dX6_remember_40 ?_
    refine a_top (y := nI c) (by rw [up2_k (by omega)]; exact e6) ?_
    refine a_iconst (pc := 43) (v := 1) dX6_remember_43 (by decide) ?_
    refine a_iaddN (pc := 44) (a := _) (b := 1) rfl rfl dX6_remember_44 ?_
    refine a_iconst (pc := 45) (v := 4) dX6_remember_45 (by decide) ?_
    refine a_mmin (pc := 46) nl_X6_218 nw_min1 nw_math nw_min3 (Nat.le_of_ble_eq_true rfl) (Nat.le_of_ble_eq_true rfl) dX6_remember_46 ?_
    refine a_top (y := nI (if c = 4 then 4 else c + 1)) (mmin4 hc4) ?_
    refine a_puti (pc := 49) fp_X6_119 (by assumption) (by decide) (by rfl) dX6_remember_49 ?_
    refine a_vret (pc := 52) rfl dX6_remember_52 ?_
    first
    | (have e : p = 3 := Classical.byContradiction fun q => absurd c_22 (by first | exact not_not_intro (nI_ne (b := 3) (by omega) (by omega) q) | exact nI_ne (b := 3) (by omega) (by omega) q)
       subst e
       exact ⟨v, hC, hF, rfl⟩)
    | (have e : p ≠ 3 := fun q => absurd c_22 (by subst q; exact not_not_intro rfl)
       rw [show (p + 1) % 4 = p + 1 by omega]
       exact ⟨v, hC, hF, rfl⟩)

theorem BLn.cp {u μ : Mem} {n m : Nat} (hC : NCP u n μ m) (hb : BLn μ m) : BLn u n := by
  intro i hi
  rw [(hC.2.2 i hi).1 10 (by omega)]; exact hb i hi
theorem kpF_lo {w f : Nat → Int32} {c j i : Nat} (hj : j ≠ c) (hi : i < 440) : kpF w f c (440 * j + i) = w (440 * j + i) := by
  unfold kpF; rw [if_neg (by omega)]
theorem kpF_at {w f : Nat → Int32} {c i : Nat} (hi : i < 440) : kpF w f c (440 * c + i) = f i := by
  unfold kpF; rw [if_pos (by omega)]; congr 1; omega
theorem shwF_at {w : Nat → Int32} {j i : Nat} (hj : j < 3) (hi : i < 440) : shwF w (440 * j + i) = w (440 * (j + 1) + i) := by
  unfold shwF; rw [if_pos (by omega)]; congr 1; omega
set_option maxHeartbeats 1000000 in
theorem rem_keep {μ ν : Mem} {D : Nat} (hG : GR μ ν D) : ∃ U V : Mem → Prop, Con shC mX6_remember [.ref 0] μ (fun _ u => U u) ∧ Con shM mX7_keeps [.ref 0] ν (fun _ v => V v) ∧ (∀ u, U u → ∀ x, 1 ≤ x → x ≤ 106 → u x = μ x) ∧ (∀ v, V v → (∀ x, 1 ≤ x → x ≠ 3 → v x = ν x) ∧ ∀ k, k ≠ 9 → v 0 k = ν 0 k) ∧ ∀ u v, U u → V v → GR u v D := by
  obtain ⟨N, t, hNR, ht, ⟨c, p, c1, c2, c3, p1, p2, hj⟩, ⟨l, l1, l2, l3, l4⟩, hB⟩ := id hG
  have hK : ∃ w : Nat → Int32, Con shM mX7_keeps [.ref 0] ν (fun _ v => v = up2 (upA ν 3 w) 0 9 (nI (if c = 4 then 4 else c + 1))) ∧ (∀ i, i < 440 → w (440 * (if c = 4 then 3 else c) + i) = ν 2 i) ∧ ∀ j, j < (if c = 4 then 3 else c) → ∀ i, i < 440 → w (440 * j + i) = ν 3 (440 * (if c = 4 then j + 1 else j) + i) := by
    by_cases e : c = 4
    · subst e
      refine ⟨_, c_X7_keeps4 c2, fun i hi => ?_, fun j hj i hi => ?_⟩
      · rw [if_pos rfl]; exact kpF_at hi
      · rw [if_pos rfl] at hj ⊢; rw [kpF_lo (by omega) hi, shwF_at hj hi]
    · refine ⟨_, by rw [if_neg e]; exact c_X7_keeps c2 (by omega), fun i hi => ?_, fun j hj i hi => ?_⟩
      · rw [if_neg e]; exact kpF_at hi
      · rw [if_neg e] at hj ⊢; rw [kpF_lo (by omega) hi]
  obtain ⟨w, hw, w1, w2⟩ := hK
  refine ⟨_, _, c_X6_remember c1 c3 p1 p2 hB.1, hw, ?_, ?_, ?_⟩
  · rintro u ⟨v, hC, hF, rfl⟩ x h1 h2
    rw [up2_ne (by omega), up2_ne (by omega), hF x (Or.inl (by unfold pst; omega))]
  · rintro v rfl
    refine ⟨fun x h1 h2 => ?_, fun k hk => ?_⟩
    · rw [up2_ne (by omega), upA_ne h2]
    · rw [up2_k hk, upA_ne (by omega)]
  · rintro u v ⟨m, hC, hF, rfl⟩ rfl
    have em : ∀ x, 1 ≤ x → up2 (up2 m 0 7 (nI ((p + 1) % 4))) 0 6 (nI (if c = 4 then 4 else c + 1)) x = m x := fun x hx => by rw [up2_ne (by omega), up2_ne (by omega)]
    have ev : ∀ x, 1 ≤ x → x ≠ 3 → up2 (upA ν 3 w) 0 9 (nI (if c = 4 then 4 else c + 1)) x = ν x := fun x hx h3 => by rw [up2_ne (by omega), upA_ne h3]
    have ev3 : up2 (upA ν 3 w) 0 9 (nI (if c = 4 then 4 else c + 1)) 3 = w := by rw [up2_ne (by omega), upA_at]
    have ev0 : ∀ k, k ≠ 9 → up2 (upA ν 3 w) 0 9 (nI (if c = 4 then 4 else c + 1)) 0 k = ν 0 k := fun k hk => by rw [up2_k hk, upA_ne (by omega)]
    generalize hu : up2 (up2 m 0 7 (nI ((p + 1) % 4))) 0 6 (nI (if c = 4 then 4 else c + 1)) = u at em ⊢
    have u7 : u 0 7 = nI ((p + 1) % 4) := by rw [← hu, up2_k (by omega), up2_at]
    have u6 : u 0 6 = nI (if c = 4 then 4 else c + 1) := by rw [← hu, up2_at]
    have u1 : u 0 1 = μ 0 1 := by rw [← hu, up2_k (by omega), up2_k (by omega), hF 0 (Or.inl (by unfold pst; omega))]
    have v9 : up2 (upA ν 3 w) 0 9 (nI (if c = 4 then 4 else c + 1)) 0 9 = nI (if c = 4 then 4 else c + 1) := up2_at
    generalize up2 (upA ν 3 w) 0 9 (nI (if c = 4 then 4 else c + 1)) = v at ev ev3 ev0 v9 ⊢
    have eu : ∀ x, 1 ≤ x → (x < pst p ∨ pst p + 50 < x) → u x = μ x := fun x h1 h2 => by rw [em x h1, hF x h2]
    have hCu : NCP u (pst p) μ 2 := ⟨fun k hk => by rw [em _ (by unfold pst; omega)]; exact hC.1 k hk, fun k hk => by rw [em _ (by unfold pst; omega)]; exact hC.2.1 k hk, fun i hi => (hC.2.2 i hi).fr (fun x h1 _ => em x (by unfold stA pst at h1; omega))⟩
    refine ⟨N, t, NB.eq (fun x h1 h2 => eu x (by omega) (Or.inl (by unfold pst; omega))) (fun k k1 k2 => ev0 k (by omega)) (fun i hi => by rw [ev 2 (by omega) (by omega)]) (Nat.le_refl _) hNR, ht, ⟨if c = 4 then 4 else c + 1, (p + 1) % 4, u6, v9, by split <;> omega, u7, by omega, ?_⟩, ⟨l, l1, u1.trans l2, (ev0 0 (by omega)).trans l3, by rw [eu 1 (by omega) (Or.inl (by unfold pst; omega)), ev 1 (by omega) (by omega)]; exact l4⟩, ⟨hB.1.eq (fun x h1 h2 => eu x (by omega) (Or.inl (by unfold pst; omega))), hB.2.1.eq (fun x h1 h2 => eu x (by omega) (Or.inl (by unfold pst; omega))), fun j hj4 => ?_⟩⟩
    · intro j hjc
      by_cases ej : j = (if c = 4 then 3 else c)
      · have e : ((p + 1) % 4 + 4 - (if c = 4 then 4 else c + 1) + j) % 4 = p := by rw [ej]; split <;> omega
        rw [e]
        refine ⟨t, ht, NB.mv (b := 0) hCu (fun k k1 k2 => ?_) (fun i hi => ?_) (Nat.le_refl _) hNR⟩
        · rw [upA_ne (by omega)]; exact ev0 k (by omega)
        · rw [upA_at, ev3, ej, w1 i hi, Nat.zero_add]
      · have hj2 : j < (if c = 4 then 3 else c) := by revert hjc ej; split <;> intros <;> omega
        have hj3 : (if c = 4 then j + 1 else j) < c := by revert hj2; split <;> intros <;> omega
        obtain ⟨t', ht', hN'⟩ := hj _ hj3
        have e : ((p + 1) % 4 + 4 - (if c = 4 then 4 else c + 1) + j) % 4 = (p + 4 - c + (if c = 4 then j + 1 else j)) % 4 := by revert hj2; split <;> intros <;> omega
        have e2 : (p + 4 - c + (if c = 4 then j + 1 else j)) % 4 ≠ p := by revert hj2; split <;> intros <;> omega
        rw [e]
        refine ⟨t', ht', NB.mv (NCP.eq (fun x h1 h2 => eu x (by unfold pst at h1; omega) (by unfold pst at h1 h2 ⊢; omega))) (fun k k1 k2 => ?_) (fun i hi => ?_) (Nat.le_refl _) hN'⟩
        · rw [upA_ne (by omega), upA_ne (by omega)]; exact ev0 k (by omega)
        · rw [upA_at, upA_at, ev3, w2 j hj2 i hi]
    · by_cases e : j = p
      · subst e; exact hB.1.cp hCu
      · exact (hB.2.2 j hj4).eq (fun x h1 h2 => eu x (by unfold pst at h1; omega) (by unfold pst at h1 h2 ⊢; omega))
set_option maxHeartbeats 4000000 in
set_option maxRecDepth 100000 in
theorem c_X6_undo0 {μ : Mem} (h6 : μ 0 6 = nI 0) : Con shC mX6_undo [.ref 0] μ (fun r u => r = -2 ∧ μ = u) := by
  have z0 : shC[0]? = some (6, 8, [some 1, none, some 2, some 53, some 104, some 106, none, none]) := rfl
  have hn := net_2
  obtain ⟨hn0, hn1, hn2, hnS⟩ := id hn
  refine Con.ofAW (al0 := [some (.ref 0)]) (by decide) rfl (Nat.le_of_ble_eq_true rfl) rfl ?_
  refine a_aload_n (pc := 0) dX6_undo_0 rfl rfl ?_
  refine a_geti (pc := 1) fl_X6_119 (by assumption) (by decide) (by rfl) dX6_undo_1 ?_
  refine a_top (y := nI 0) h6 ?_
  refine a_iconst (pc := 4) (v := 1) dX6_undo_4 (by decide) ?_
  refine a_icmp_ge (pc := 5) (tgt := 11) dX6_undo_5 (by decide) (fun c_5 => ?_) (fun c_5 => ?_)
  · exact absurd c_5 (by decide)
  · refine a_bipush (pc := 8) (v := -2) dX6_undo_8 (by decide) ?_
    refine a_iret (pc := 10) rfl dX6_undo_10 ?_
    exact ⟨rfl, rfl⟩

set_option maxHeartbeats 4000000 in
set_option maxRecDepth 100000 in
theorem c_X6_undo1 {μ : Mem} {c p q : Nat} (h6 : μ 0 6 = nI (c + 1)) (hc4 : c < 4) (h7 : μ 0 7 = nI q) (hq : q < 4) (hp4 : p < 4) (hpq : p = (q + 3) % 4) (hb : BLn μ (pst p)) : Con shC mX6_undo [.ref 0] μ (fun r u => r = nI c ∧ NCP u 2 μ (pst p) ∧ u 0 6 = nI c ∧ u 0 7 = nI p ∧ u 0 1 = μ 0 1 ∧ ∀ x, 1 ≤ x → (x < 2 ∨ 52 < x) → u x = μ x) := by
  have z0 : shC[0]? = some (6, 8, [some 1, none, some 2, some 53, some 104, some 106, none, none]) := rfl
  have hn := net_2
  obtain ⟨hn0, hn1, hn2, hnS⟩ := id hn
  have z6 : shC[106]? = some (103, 4, [some 107, some 158, some 209, some 260]) := rfl
  have hp := net_pst hp4
  have hp0 := hp.1
  refine Con.ofAW (al0 := [some (.ref 0)]) (by decide) rfl (Nat.le_of_ble_eq_true rfl) rfl ?_
  refine a_aload_n (pc := 0) dX6_undo_0 rfl rfl ?_
  refine a_geti (pc := 1) fl_X6_119 (by assumption) (by decide) (by rfl) dX6_undo_1 ?_
  refine a_top (y := nI (c + 1)) h6 ?_
  refine a_iconst (pc := 4) (v := 1) dX6_undo_4 (by decide) ?_
  refine a_icmp_ge (pc := 5) (tgt := 11) dX6_undo_5 (by decide) (fun c_5 => ?_) (fun c_5 => ?_)
  · refine a_aload_n (pc := 11) dX6_undo_11 rfl rfl ?_
    refine a_aload_n (pc := 12) dX6_undo_12 rfl rfl ?_
    refine a_geti (pc := 13) fl_X6_122 (by assumption) (by decide) (by rfl) dX6_undo_13 ?_
    refine a_top (y := nI q) h7 ?_
    refine a_if_ne (pc := 16) (tgt := 23) dX6_undo_16 (by decide) (fun c_16 => ?_) (fun c_16 => ?_)
    · refine a_aload_n (pc := 23) dX6_undo_23 rfl rfl ?_
      refine a_geti (pc := 24) fl_X6_122 (by assumption) (by decide) (by rfl) dX6_undo_24 ?_
      refine a_top (y := nI q) h7 ?_
      refine a_iconst (pc := 27) (v := 1) dX6_undo_27 (by decide) ?_
      refine a_isub (pc := 28) dX6_undo_28 ?_
      refine a_top (y := nI p) (by have hq0 : q ≠ 0 := fun e => c_16 (by rw [e]; rfl); rw [show p = q - 1 by omega]; exact pk_sub (b := 1) (by omega)) ?_
      refine a_puti (pc := 29) fp_X6_122 (by assumption) (by decide) (by rfl) dX6_undo_29 ?_
      refine a_aload_n (pc := 32) dX6_undo_32 rfl rfl ?_
      refine a_dup (pc := 33) dX6_undo_33 rfl ?_
      refine a_geti (pc := 34) fl_X6_119 (by assumption) (by decide) (by rfl) dX6_undo_34 ?_
      refine a_top (y := nI (c + 1)) (by rw [up2_k (by omega)]; exact h6) ?_
      refine a_iconst (pc := 37) (v := 1) dX6_undo_37 (by decide) ?_
      refine a_isubN (pc := 38) (a := _) (b := 1) rfl rfl (by omega) dX6_undo_38 ?_
      refine a_top (y := nI c) rfl ?_
      refine a_puti (pc := 39) fp_X6_119 (by assumption) (by decide) (by rfl) dX6_undo_39 ?_
      refine a_aload_n (pc := 42) dX6_undo_42 rfl rfl ?_
      refine a_getr (pc := 43) fl_X6_16 (by assumption) (by decide) (by rfl) dX6_undo_43 ?_
      refine a_aload_n (pc := 46) dX6_undo_46 rfl rfl ?_
      refine a_getr (pc := 47) fl_X6_32 (by assumption) (by decide) (by rfl) dX6_undo_47 ?_
      refine a_aload_n (pc := 50) dX6_undo_50 rfl rfl ?_
      refine a_geti (pc := 51) fl_X6_122 (by assumption) (by decide) (by rfl) dX6_undo_51 ?_
      refine a_top (y := nI p) (by rw [up2_k (by omega), up2_at]) ?_
      refine a_aald3 (pc := 54)  (by assumption) rfl (by omega) (by decide) (past_at hp4) dX6_undo_54 ?_
      refine a_callV1 (pc := 55) ck_X6_125 ⟨(Nat.le_of_ble_eq_true rfl), (Nat.le_of_ble_eq_true rfl)⟩ (by assumption) (by decide) (Nat.le_of_ble_eq_true rfl) dX6_undo_55 rfl (c_X2_copyFrom hn hp (Or.inr (by unfold pst; omega)) (hb.eq (fun x h1 _ => by rw [up2_ne (by unfold pst at h1; omega), up2_ne (by unfold pst at h1; omega)]))) ?_
      rintro u ⟨hC, hF⟩
      refine a_aload_n (pc := 58) dX6_undo_58 rfl rfl ?_
      refine a_geti (pc := 59) fl_X6_119 (by assumption) (by decide) (by rfl) dX6_undo_59 ?_
      refine a_top (y := nI c) (by rw [hF 0 (by omega), up2_at]) ?_
      refine a_iret (pc := 62) rfl dX6_undo_62 ?_
      refine ⟨rfl, ?_, by rw [hF 0 (by omega), up2_at], by rw [hF 0 (by omega), up2_k (by omega), up2_at], by rw [hF 0 (by omega), up2_k (by omega), up2_k (by omega)], fun x h1 h2 => by rw [hF x (by omega), up2_ne (by omega), up2_ne (by omega)]⟩
      refine ⟨fun k hk => ?_, fun k hk => ?_, fun i hi => ?_⟩
      · rw [hC.1 k hk, up2_ne (by unfold pst; omega), up2_ne (by unfold pst; omega)]
      · rw [hC.2.1 k hk, up2_ne (by unfold pst; omega), up2_ne (by unfold pst; omega)]
      · have h := hC.2.2 i hi
        have e : ∀ x, 1 ≤ x → up2 (up2 μ 0 7 (nI p)) 0 6 (nI c) x = μ x := fun x hx => by rw [up2_ne (by omega), up2_ne (by omega)]
        unfold SCP at h ⊢
        rw [e (stA (pst p) i) (by unfold stA; omega), e (stA (pst p) i + 1) (by omega), e (stA (pst p) i + 2) (by omega), e (stA (pst p) i + 3) (by omega), e (stA (pst p) i + 4) (by omega), e (stA (pst p) i + 5) (by omega), e (stA (pst p) i + 6) (by omega)] at h
        exact h
    · refine a_iconst (pc := 19) (v := 3) dX6_undo_19 (by decide) ?_
      refine a_top (y := nI p) (by have hq0 : q = 0 := (nI_eq (b := 0) (by omega) (by omega)).mp c_16; rw [show p = 3 by omega]; rfl) ?_
      refine a_goto (pc := 20) (tgt := 29) dX6_undo_20 (by decide) ?_
      refine a_puti (pc := 29) fp_X6_122 (by assumption) (by decide) (by rfl) dX6_undo_29 ?_
      refine a_aload_n (pc := 32) dX6_undo_32 rfl rfl ?_
      refine a_dup (pc := 33) dX6_undo_33 rfl ?_
      refine a_geti (pc := 34) fl_X6_119 (by assumption) (by decide) (by rfl) dX6_undo_34 ?_
      refine a_top (y := nI (c + 1)) (by rw [up2_k (by omega)]; exact h6) ?_
      refine a_iconst (pc := 37) (v := 1) dX6_undo_37 (by decide) ?_
      refine a_isubN (pc := 38) (a := _) (b := 1) rfl rfl (by omega) dX6_undo_38 ?_
      refine a_top (y := nI c) rfl ?_
      refine a_puti (pc := 39) fp_X6_119 (by assumption) (by decide) (by rfl) dX6_undo_39 ?_
      refine a_aload_n (pc := 42) dX6_undo_42 rfl rfl ?_
      refine a_getr (pc := 43) fl_X6_16 (by assumption) (by decide) (by rfl) dX6_undo_43 ?_
      refine a_aload_n (pc := 46) dX6_undo_46 rfl rfl ?_
      refine a_getr (pc := 47) fl_X6_32 (by assumption) (by decide) (by rfl) dX6_undo_47 ?_
      refine a_aload_n (pc := 50) dX6_undo_50 rfl rfl ?_
      refine a_geti (pc := 51) fl_X6_122 (by assumption) (by decide) (by rfl) dX6_undo_51 ?_
      refine a_top (y := nI p) (by rw [up2_k (by omega), up2_at]) ?_
      refine a_aald3 (pc := 54)  (by assumption) rfl (by omega) (by decide) (past_at hp4) dX6_undo_54 ?_
      refine a_callV1 (pc := 55) ck_X6_125 ⟨(Nat.le_of_ble_eq_true rfl), (Nat.le_of_ble_eq_true rfl)⟩ (by assumption) (by decide) (Nat.le_of_ble_eq_true rfl) dX6_undo_55 rfl (c_X2_copyFrom hn hp (Or.inr (by unfold pst; omega)) (hb.eq (fun x h1 _ => by rw [up2_ne (by unfold pst at h1; omega), up2_ne (by unfold pst at h1; omega)]))) ?_
      rintro u ⟨hC, hF⟩
      refine a_aload_n (pc := 58) dX6_undo_58 rfl rfl ?_
      refine a_geti (pc := 59) fl_X6_119 (by assumption) (by decide) (by rfl) dX6_undo_59 ?_
      refine a_top (y := nI c) (by rw [hF 0 (by omega), up2_at]) ?_
      refine a_iret (pc := 62) rfl dX6_undo_62 ?_
      refine ⟨rfl, ?_, by rw [hF 0 (by omega), up2_at], by rw [hF 0 (by omega), up2_k (by omega), up2_at], by rw [hF 0 (by omega), up2_k (by omega), up2_k (by omega)], fun x h1 h2 => by rw [hF x (by omega), up2_ne (by omega), up2_ne (by omega)]⟩
      refine ⟨fun k hk => ?_, fun k hk => ?_, fun i hi => ?_⟩
      · rw [hC.1 k hk, up2_ne (by unfold pst; omega), up2_ne (by unfold pst; omega)]
      · rw [hC.2.1 k hk, up2_ne (by unfold pst; omega), up2_ne (by unfold pst; omega)]
      · have h := hC.2.2 i hi
        have e : ∀ x, 1 ≤ x → up2 (up2 μ 0 7 (nI p)) 0 6 (nI c) x = μ x := fun x hx => by rw [up2_ne (by omega), up2_ne (by omega)]
        unfold SCP at h ⊢
        rw [e (stA (pst p) i) (by unfold stA; omega), e (stA (pst p) i + 1) (by omega), e (stA (pst p) i + 2) (by omega), e (stA (pst p) i + 3) (by omega), e (stA (pst p) i + 4) (by omega), e (stA (pst p) i + 5) (by omega), e (stA (pst p) i + 6) (by omega)] at h
        exact h
  · exact absurd (nI_le (a := 1) (by omega) (by omega)) c_5

theorem api_undo {μ ν : Mem} {D : Nat} (hG : GR μ ν D) : API mX6_undo mX7_undo [] μ ν D := by
  obtain ⟨N, t, hNR, ht, ⟨c, p, c1, c2, c3, p1, p2, hj⟩, ⟨l, l1, l2, l3, l4⟩, hB⟩ := id hG
  match c, c1, c2, c3, hj with
  | 0, c1, c2, _, _ => exact API.same hG (c_X6_undo0 c1) (c_X7_undo0 c2)
  | c + 1, c1, c2, c3, hj =>
    refine API.of ⟨nI c, _, _, c_X6_undo1 c1 (by omega) p1 p2 (p := (p + 3) % 4) (by omega) rfl (hB.2.2 _ (by omega)), c_X7_undo1 c2 (by omega), ?_⟩
    rintro u v ⟨hC, u6, u7, u1, ue⟩ hv
    have v0 : ∀ k, k ≠ 9 → v 0 k = ν 0 k := fun k hk => by rw [hv, upA_ne (by omega), up2_k hk]
    have v9 : v 0 9 = nI c := by rw [hv, upA_ne (by omega), up2_at]
    have v1 : ∀ x, 1 ≤ x → x ≠ 2 → v x = ν x := fun x hx h2 => by rw [hv, upA_ne h2, up2_ne (by omega)]
    have v2 : v 2 = undF (ν 3) (ν 2) c := by rw [hv, upA_at]
    clear hv
    obtain ⟨t', ht', hN'⟩ := hj c (by omega)
    rw [show (p + 4 - (c + 1) + c) % 4 = (p + 3) % 4 by omega] at hN'
    refine ⟨N, t', NB.mv hC (fun k k1 k2 => ?_) (fun i hi => ?_) (Nat.le_refl _) hN', ht', ⟨c, (p + 3) % 4, u6, v9, by omega, u7, by omega, fun j hjc => ?_⟩, ⟨l, l1, u1.trans l2, (v0 0 (by omega)).trans l3, by rw [ue 1 (by omega) (by omega), v1 1 (by omega) (by omega)]; exact l4⟩, ⟨(hB.2.2 _ (by omega)).cp hC, hB.2.1.eq (fun x h1 h2 => ue x (by omega) (by omega)), fun j hj4 => (hB.2.2 j hj4).eq (fun x h1 h2 => ue x (by unfold pst at h1; omega) (by unfold pst at h1; omega))⟩⟩
    · rw [upA_ne (by omega)]; exact v0 k (by omega)
    · rw [v2, upA_at]; unfold undF; rw [if_pos (by omega), Nat.zero_add]
    · obtain ⟨t2, ht2, hN2⟩ := hj j (by omega)
      rw [show ((p + 3) % 4 + 4 - c + j) % 4 = (p + 4 - (c + 1) + j) % 4 by omega]
      refine ⟨t2, ht2, NB.mv (NCP.eq (fun x h1 h2 => ue x (by unfold pst at h1; omega) (by unfold pst at h1; omega))) (fun k k1 k2 => ?_) (fun i hi => ?_) (Nat.le_refl _) hN2⟩
      · rw [upA_ne (by omega), upA_ne (by omega)]; exact v0 k (by omega)
      · rw [upA_at, upA_at, v1 3 (by omega) (by omega)]
