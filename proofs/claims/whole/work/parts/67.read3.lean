/-! the class reads: an item. nP1.. : the numbers behind a letter at p - 1 -/
theorem rd_in {μ : Mem} {p : Nat} : up2 μ 104 4 (nI p) = rdM μ p (μ 105) := by
  funext x k; unfold rdM; simp only [up2_ap, upA_ap]
  by_cases h5 : x = 105
  · subst h5; simp
  · simp [h5, up2_ap]
abbrev nX (tx : Nat → Nat) (l p : Nat) : Nat := nE tx l p + 1
def okN (tx : Nat → Nat) (l p : Nat) : Nat → Prop
  | 0 => False
  | 1 => nP tx l p 59
  | 2 => nP tx l p 44 ∧ nP tx l (nX tx l p) 59
  | _ => nP tx l p 44 ∧ nP tx l (nX tx l p) 44 ∧ nP tx l (nX tx l (nX tx l p)) 59
set_option maxHeartbeats 4000000 in
set_option maxRecDepth 100000 in
theorem c_X3_readItem110 {μ : Mem} {tx : Nat → Nat} {l p N : Nat} (hT : RT μ tx l) (hp4 : μ 104 4 = nI p) (hpl : p < l) (htx : tx p = 110) (h0 : μ 53 0 = nI N) (hN : N ≤ 6)  : Con shC mX3_readItem [.ref 104] μ (fun r u => (r = 1 ∧ (okN tx l (p + 1) 1 ∧ N = 0 ∧ 2 ≤ (nV tx l (p + 1)) ∧ (nV tx l (p + 1)) ≤ 6) ∧ u = up2 (rdM μ (nE tx l (p + 1) + 1) (upd (μ 105) 0 (nI (nV tx l (p + 1))))) 53 0 (nI (nV tx l (p + 1)))) ∨ (r = 0 ∧ ¬ (okN tx l (p + 1) 1 ∧ N = 0 ∧ 2 ≤ (nV tx l (p + 1)) ∧ (nV tx l (p + 1)) ≤ 6) ∧ ∃ p2 g2, u = rdM μ p2 g2)) := by
  have z1 : shC[1]? = some (101, 200, []) := rfl
  have r0 : shC[104]? = some (3, 5, [some 1, some 53, some 105, none, none]) := rfl
  have r1 : shC[105]? = some (100, 3, []) := rfl
  have hn := net_53
  obtain ⟨hn0, hn1, hn2, hnS⟩ := id hn
  obtain ⟨hE, hTx, hTX⟩ := id hT
  have hl200 := hTX.1
  refine Con.ofAW (al0 := [some (.ref 104), none, none]) (by decide) rfl (Nat.le_of_ble_eq_true rfl) rfl ?_
  refine a_aload_n (pc := 0) dX3_readItem_0 rfl rfl ?_
  refine a_getr (pc := 1) fl_X3_15 (by assumption) (by decide) (by rfl) dX3_readItem_1 ?_
  refine a_aload_n (pc := 4) dX3_readItem_4 rfl rfl ?_
  refine a_geti (pc := 5) fl_X3_38 (by assumption) (by decide) (by rfl) dX3_readItem_5 ?_
  refine a_cald (pc := 8) (j := p) (by assumption) hp4 (by omega) (by decide) dX3_readItem_8 ?_
  refine a_top (y := 110) (by rw [hTx p hpl, htx]; rfl) ?_
  refine a_istore_n (pc := 9) (al' := [some (.ref _), some (.int _), none]) dX3_readItem_9 rfl (by decide) rfl rfl ?_
  refine a_aload_n (pc := 10) dX3_readItem_10 rfl rfl ?_
  refine a_dup (pc := 11) dX3_readItem_11 rfl ?_
  refine a_geti (pc := 12) fl_X3_38 (by assumption) (by decide) (by rfl) dX3_readItem_12 ?_
  refine a_top (y := nI p) hp4 ?_
  refine a_iconst (pc := 15) (v := 1) dX3_readItem_15 (by decide) ?_
  refine a_iaddN (pc := 16) (a := _) (b := 1) rfl rfl dX3_readItem_16 ?_
  refine a_puti (pc := 17) fp_X3_38 (by assumption) (by decide) (by rfl) dX3_readItem_17 ?_
  rw [rd_in]
  refine a_aload_n (pc := 20) dX3_readItem_20 rfl rfl ?_
  refine a_iload_n (pc := 21) dX3_readItem_21 rfl rfl ?_
  refine a_callI1 (pc := 22) ck_X3_45 ⟨(Nat.le_of_ble_eq_true rfl), (Nat.le_of_ble_eq_true rfl)⟩ (by assumption) (by decide) (Nat.le_of_ble_eq_true rfl) dX3_readItem_22 rfl c_X3_numbersBehind110 ?_
  rintro r_ u ⟨rfl, rfl⟩
  refine a_istore_n (pc := 25) (al' := [some (.ref _), some (.int _), some (.int _)]) dX3_readItem_25 rfl (by decide) rfl rfl ?_
  refine a_iload_n (pc := 26) dX3_readItem_26 rfl rfl ?_
  refine a_if_eq (pc := 27) (tgt := 38) dX3_readItem_27 (by decide) (fun c_27 => ?_) (fun c_27 => ?_)
  · exact absurd c_27 (by decide)
  · refine a_aload_n (pc := 30) dX3_readItem_30 rfl rfl ?_
    refine a_iload_n (pc := 31) dX3_readItem_31 rfl rfl ?_
    refine a_callI1 (pc := 32) ck_X3_49 ⟨(Nat.le_of_ble_eq_true rfl), (Nat.le_of_ble_eq_true rfl)⟩ (by assumption) (by decide) (Nat.le_of_ble_eq_true rfl) dX3_readItem_32 rfl (c_X3_readNumbers1 hT (by omega)) ?_
    rintro r u hr
    refine a_if_ne (pc := 35) (tgt := 40) dX3_readItem_35 (by decide) (fun c_35 => ?_) (fun c_35 => ?_)
    · obtain ⟨-, hcond, rfl⟩ := hr.resolve_right (fun w => c_35 w.1)
      refine a_iload_n (pc := 40) dX3_readItem_40 rfl rfl ?_
      refine a_bipush (pc := 41) (v := 110) dX3_readItem_41 (by decide) ?_
      refine a_icmp_ne (pc := 43) (tgt := 57) dX3_readItem_43 (by decide) (fun c_43 => ?_) (fun c_43 => ?_)
      · exact absurd c_43 (by decide)
      · refine a_aload_n (pc := 46) dX3_readItem_46 rfl rfl ?_
        refine a_aload_n (pc := 47) dX3_readItem_47 rfl rfl ?_
        refine a_getr (pc := 48) fl_X3_11 (by assumption) (by decide) (by rfl) dX3_readItem_48 ?_
        refine a_iconst (pc := 51) (v := 0) dX3_readItem_51 (by decide) ?_
        refine a_iald (pc := 52) (j := 0) (by assumption) rfl (by omega) (by decide) dX3_readItem_52 ?_
        refine a_top (y := nI (nV tx l (p + 1))) (by rw [rd_g]; simp [upd_ap]) ?_
        refine a_callI1 (pc := 53) ck_X3_53 ⟨(Nat.le_of_ble_eq_true rfl), (Nat.le_of_ble_eq_true rfl)⟩ (by assumption) (by decide) (Nat.le_of_ble_eq_true rfl) dX3_readItem_53 rfl (c_X3_setStations (by rw [rd_x (by omega) (by omega)]; exact h0) hN nV_lt) ?_
        rintro r2 u hr2
        refine a_zret (pc := 56) rfl ((bool_nar (by rcases hr2 with w | w; exact Or.inr w.1; exact Or.inl w.1)).1) dX3_readItem_56 ?_
        rcases hr2 with w | w
        · exact Or.inl ⟨w.1, ⟨hcond, w.2.1⟩, w.2.2⟩
        · exact Or.inr ⟨w.1, fun q => w.2.1 q.2, _, _, w.2.2⟩
    · refine a_iconst (pc := 38) (v := 0) dX3_readItem_38 (by decide) ?_
      refine a_zret (pc := 39) rfl (by rfl) dX3_readItem_39 ?_
      exact Or.inr ⟨rfl, fun q => (hr.resolve_left (fun w => absurd (w.1.symm.trans c_35) (by decide))).2.1 q.1, (hr.resolve_left (fun w => absurd (w.1.symm.trans c_35) (by decide))).2.2⟩

set_option maxHeartbeats 4000000 in
set_option maxRecDepth 100000 in
theorem c_X3_readItem104 {μ : Mem} {tx : Nat → Nat} {l p N : Nat} (hT : RT μ tx l) (hp4 : μ 104 4 = nI p) (hpl : p < l) (htx : tx p = 104) (h0 : μ 53 0 = nI N) (hN : N ≤ 6)  : Con shC mX3_readItem [.ref 104] μ (fun r u => (r = 1 ∧ (okN tx l (p + 1) 2 ∧ 0 < N ∧ (nV tx l (p + 1)) < N ∧ (nV tx l (nE tx l (p + 1) + 1)) < N ∧ (nV tx l (p + 1)) ≠ (nV tx l (nE tx l (p + 1) + 1))) ∧ u = jonF (rdM μ (nE tx l (nE tx l (p + 1) + 1) + 1) (upd (upd (μ 105) 0 (nI (nV tx l (p + 1)))) 1 (nI (nV tx l (nE tx l (p + 1) + 1))))) 53 (nV tx l (p + 1)) (nV tx l (nE tx l (p + 1) + 1))) ∨ (r = 0 ∧ ¬ (okN tx l (p + 1) 2 ∧ 0 < N ∧ (nV tx l (p + 1)) < N ∧ (nV tx l (nE tx l (p + 1) + 1)) < N ∧ (nV tx l (p + 1)) ≠ (nV tx l (nE tx l (p + 1) + 1))) ∧ ∃ p2 g2, u = rdM μ p2 g2)) := by
  have z1 : shC[1]? = some (101, 200, []) := rfl
  have r0 : shC[104]? = some (3, 5, [some 1, some 53, some 105, none, none]) := rfl
  have r1 : shC[105]? = some (100, 3, []) := rfl
  have hn := net_53
  obtain ⟨hn0, hn1, hn2, hnS⟩ := id hn
  obtain ⟨hE, hTx, hTX⟩ := id hT
  have hl200 := hTX.1
  refine Con.ofAW (al0 := [some (.ref 104), none, none]) (by decide) rfl (Nat.le_of_ble_eq_true rfl) rfl ?_
  refine a_aload_n (pc := 0) dX3_readItem_0 rfl rfl ?_
  refine a_getr (pc := 1) fl_X3_15 (by assumption) (by decide) (by rfl) dX3_readItem_1 ?_
  refine a_aload_n (pc := 4) dX3_readItem_4 rfl rfl ?_
  refine a_geti (pc := 5) fl_X3_38 (by assumption) (by decide) (by rfl) dX3_readItem_5 ?_
  refine a_cald (pc := 8) (j := p) (by assumption) hp4 (by omega) (by decide) dX3_readItem_8 ?_
  refine a_top (y := 104) (by rw [hTx p hpl, htx]; rfl) ?_
  refine a_istore_n (pc := 9) (al' := [some (.ref _), some (.int _), none]) dX3_readItem_9 rfl (by decide) rfl rfl ?_
  refine a_aload_n (pc := 10) dX3_readItem_10 rfl rfl ?_
  refine a_dup (pc := 11) dX3_readItem_11 rfl ?_
  refine a_geti (pc := 12) fl_X3_38 (by assumption) (by decide) (by rfl) dX3_readItem_12 ?_
  refine a_top (y := nI p) hp4 ?_
  refine a_iconst (pc := 15) (v := 1) dX3_readItem_15 (by decide) ?_
  refine a_iaddN (pc := 16) (a := _) (b := 1) rfl rfl dX3_readItem_16 ?_
  refine a_puti (pc := 17) fp_X3_38 (by assumption) (by decide) (by rfl) dX3_readItem_17 ?_
  rw [rd_in]
  refine a_aload_n (pc := 20) dX3_readItem_20 rfl rfl ?_
  refine a_iload_n (pc := 21) dX3_readItem_21 rfl rfl ?_
  refine a_callI1 (pc := 22) ck_X3_45 ⟨(Nat.le_of_ble_eq_true rfl), (Nat.le_of_ble_eq_true rfl)⟩ (by assumption) (by decide) (Nat.le_of_ble_eq_true rfl) dX3_readItem_22 rfl c_X3_numbersBehind104 ?_
  rintro r_ u ⟨rfl, rfl⟩
  refine a_istore_n (pc := 25) (al' := [some (.ref _), some (.int _), some (.int _)]) dX3_readItem_25 rfl (by decide) rfl rfl ?_
  refine a_iload_n (pc := 26) dX3_readItem_26 rfl rfl ?_
  refine a_if_eq (pc := 27) (tgt := 38) dX3_readItem_27 (by decide) (fun c_27 => ?_) (fun c_27 => ?_)
  · exact absurd c_27 (by decide)
  · refine a_aload_n (pc := 30) dX3_readItem_30 rfl rfl ?_
    refine a_iload_n (pc := 31) dX3_readItem_31 rfl rfl ?_
    refine a_callI1 (pc := 32) ck_X3_49 ⟨(Nat.le_of_ble_eq_true rfl), (Nat.le_of_ble_eq_true rfl)⟩ (by assumption) (by decide) (Nat.le_of_ble_eq_true rfl) dX3_readItem_32 rfl (c_X3_readNumbers2 hT (by omega)) ?_
    rintro r u hr
    refine a_if_ne (pc := 35) (tgt := 40) dX3_readItem_35 (by decide) (fun c_35 => ?_) (fun c_35 => ?_)
    · obtain ⟨-, hcond, rfl⟩ := hr.resolve_right (fun w => c_35 w.1)
      refine a_iload_n (pc := 40) dX3_readItem_40 rfl rfl ?_
      refine a_bipush (pc := 41) (v := 110) dX3_readItem_41 (by decide) ?_
      refine a_icmp_ne (pc := 43) (tgt := 57) dX3_readItem_43 (by decide) (fun c_43 => ?_) (fun c_43 => ?_)
      · refine a_aload_n (pc := 57) dX3_readItem_57 rfl rfl ?_
        refine a_getr (pc := 58) fl_X3_19 (by assumption) (by decide) (by rfl) dX3_readItem_58 ?_
        refine a_geti (pc := 61) fl_X3_56 (by assumption) (by decide) (by rfl) dX3_readItem_61 ?_
        refine a_top (y := nI N) (by rw [rd_x (by omega) (by omega)]; exact h0) ?_
        refine a_if_le (pc := 64) (tgt := 97) dX3_readItem_64 (by decide) (fun c_64 => ?_) (fun c_64 => ?_)
        · have n_64 : N ≤ 0 := (nI_leI (a := N) (b := 0) (by omega) (by omega)).mp c_64
          refine a_iconst (pc := 97) (v := 0) dX3_readItem_97 (by decide) ?_
          refine a_zret (pc := 98) rfl (by rfl) dX3_readItem_98 ?_
          first
          | (have w := hr2.resolve_right (fun w => c_90 w.1); exact Or.inl ⟨rfl, ⟨hcond, n_64, w.2.1⟩, w.2.2⟩)
          | (have w := hr2.resolve_left (fun w => absurd (w.1.symm.trans c_90) (by decide)); exact Or.inr ⟨rfl, fun q => w.2.1 q.2.2, _, _, w.2.2⟩)
          | exact Or.inr ⟨rfl, fun q => absurd q.2.1 (by omega), _, _, rfl⟩
        · have n_64 : 0 < N := (nI_ltI (a := 0) (b := N) (by omega) (by omega)).mp (Int32.not_le.mp c_64)
          refine a_aload_n (pc := 67) dX3_readItem_67 rfl rfl ?_
          refine a_iload_n (pc := 68) dX3_readItem_68 rfl rfl ?_
          refine a_aload_n (pc := 69) dX3_readItem_69 rfl rfl ?_
          refine a_getr (pc := 70) fl_X3_11 (by assumption) (by decide) (by rfl) dX3_readItem_70 ?_
          refine a_iconst (pc := 73) (v := 0) dX3_readItem_73 (by decide) ?_
          refine a_iald (pc := 74) (j := 0) (by assumption) rfl (by omega) (by decide) dX3_readItem_74 ?_
          refine a_top (y := nI (nV tx l (p + 1))) (by rw [rd_g]; simp [upd_ap]) ?_
          refine a_aload_n (pc := 75) dX3_readItem_75 rfl rfl ?_
          refine a_getr (pc := 76) fl_X3_11 (by assumption) (by decide) (by rfl) dX3_readItem_76 ?_
          refine a_iconst (pc := 79) (v := 1) dX3_readItem_79 (by decide) ?_
          refine a_iald (pc := 80) (j := 1) (by assumption) rfl (by omega) (by decide) dX3_readItem_80 ?_
          refine a_top (y := nI (nV tx l (nE tx l (p + 1) + 1))) (by rw [rd_g]; simp [upd_ap]) ?_
          refine a_aload_n (pc := 81) dX3_readItem_81 rfl rfl ?_
          refine a_getr (pc := 82) fl_X3_11 (by assumption) (by decide) (by rfl) dX3_readItem_82 ?_
          refine a_iconst (pc := 85) (v := 2) dX3_readItem_85 (by decide) ?_
          refine a_iald (pc := 86) (j := 2) (by assumption) rfl (by omega) (by decide) dX3_readItem_86 ?_
          refine a_callI4 (pc := 87) ck_X3_59 ⟨(Nat.le_of_ble_eq_true rfl), (Nat.le_of_ble_eq_true rfl)⟩ (by assumption) (by decide) (Nat.le_of_ble_eq_true rfl) dX3_readItem_87 rfl (c_X3_applyItem104 (by rw [rd_x (by omega) (by omega)]; exact h0) hN nV_lt nV_lt) ?_
          rintro r2 u hr2
          refine a_if_eq (pc := 90) (tgt := 97) dX3_readItem_90 (by decide) (fun c_90 => ?_) (fun c_90 => ?_)
          · refine a_iconst (pc := 97) (v := 0) dX3_readItem_97 (by decide) ?_
            refine a_zret (pc := 98) rfl (by rfl) dX3_readItem_98 ?_
            first
            | (have w := hr2.resolve_right (fun w => c_90 w.1); exact Or.inl ⟨rfl, ⟨hcond, n_64, w.2.1⟩, w.2.2⟩)
            | (have w := hr2.resolve_left (fun w => absurd (w.1.symm.trans c_90) (by decide)); exact Or.inr ⟨rfl, fun q => w.2.1 q.2.2, _, _, w.2.2⟩)
            | exact Or.inr ⟨rfl, fun q => absurd q.2.1 (by omega), _, _, rfl⟩
          · refine a_iconst (pc := 93) (v := 1) dX3_readItem_93 (by decide) ?_
            refine a_goto (pc := 94) (tgt := 98) dX3_readItem_94 (by decide) ?_
            refine a_zret (pc := 98) rfl (by rfl) dX3_readItem_98 ?_
            first
            | (have w := hr2.resolve_right (fun w => c_90 w.1); exact Or.inl ⟨rfl, ⟨hcond, n_64, w.2.1⟩, w.2.2⟩)
            | (have w := hr2.resolve_left (fun w => absurd (w.1.symm.trans c_90) (by decide)); exact Or.inr ⟨rfl, fun q => w.2.1 q.2.2, _, _, w.2.2⟩)
            | exact Or.inr ⟨rfl, fun q => absurd q.2.1 (by omega), _, _, rfl⟩
      · exact absurd c_43 (by decide)
    · refine a_iconst (pc := 38) (v := 0) dX3_readItem_38 (by decide) ?_
      refine a_zret (pc := 39) rfl (by rfl) dX3_readItem_39 ?_
      exact Or.inr ⟨rfl, fun q => (hr.resolve_left (fun w => absurd (w.1.symm.trans c_35) (by decide))).2.1 q.1, (hr.resolve_left (fun w => absurd (w.1.symm.trans c_35) (by decide))).2.2⟩

set_option maxHeartbeats 4000000 in
set_option maxRecDepth 100000 in
theorem c_X3_readItem119 {μ : Mem} {tx : Nat → Nat} {l p N : Nat} (hT : RT μ tx l) (hp4 : μ 104 4 = nI p) (hpl : p < l) (htx : tx p = 119) (h0 : μ 53 0 = nI N) (hN : N ≤ 6)  : Con shC mX3_readItem [.ref 104] μ (fun r u => (r = 1 ∧ (okN tx l (p + 1) 2 ∧ 0 < N ∧ 1 ≤ (nV tx l (p + 1)) ∧ (nV tx l (p + 1)) ≤ 16 ∧ (nV tx l (p + 1)) ≤ (nV tx l (nE tx l (p + 1) + 1)) ∧ (nV tx l (nE tx l (p + 1) + 1)) ≤ 64) ∧ u = up2 (up2 (rdM μ (nE tx l (nE tx l (p + 1) + 1) + 1) (upd (upd (μ 105) 0 (nI (nV tx l (p + 1)))) 1 (nI (nV tx l (nE tx l (p + 1) + 1))))) 53 1 (nI (nV tx l (p + 1)))) 53 2 (nI (nV tx l (nE tx l (p + 1) + 1)))) ∨ (r = 0 ∧ ¬ (okN tx l (p + 1) 2 ∧ 0 < N ∧ 1 ≤ (nV tx l (p + 1)) ∧ (nV tx l (p + 1)) ≤ 16 ∧ (nV tx l (p + 1)) ≤ (nV tx l (nE tx l (p + 1) + 1)) ∧ (nV tx l (nE tx l (p + 1) + 1)) ≤ 64) ∧ ∃ p2 g2, u = rdM μ p2 g2)) := by
  have z1 : shC[1]? = some (101, 200, []) := rfl
  have r0 : shC[104]? = some (3, 5, [some 1, some 53, some 105, none, none]) := rfl
  have r1 : shC[105]? = some (100, 3, []) := rfl
  have hn := net_53
  obtain ⟨hn0, hn1, hn2, hnS⟩ := id hn
  obtain ⟨hE, hTx, hTX⟩ := id hT
  have hl200 := hTX.1
  refine Con.ofAW (al0 := [some (.ref 104), none, none]) (by decide) rfl (Nat.le_of_ble_eq_true rfl) rfl ?_
  refine a_aload_n (pc := 0) dX3_readItem_0 rfl rfl ?_
  refine a_getr (pc := 1) fl_X3_15 (by assumption) (by decide) (by rfl) dX3_readItem_1 ?_
  refine a_aload_n (pc := 4) dX3_readItem_4 rfl rfl ?_
  refine a_geti (pc := 5) fl_X3_38 (by assumption) (by decide) (by rfl) dX3_readItem_5 ?_
  refine a_cald (pc := 8) (j := p) (by assumption) hp4 (by omega) (by decide) dX3_readItem_8 ?_
  refine a_top (y := 119) (by rw [hTx p hpl, htx]; rfl) ?_
  refine a_istore_n (pc := 9) (al' := [some (.ref _), some (.int _), none]) dX3_readItem_9 rfl (by decide) rfl rfl ?_
  refine a_aload_n (pc := 10) dX3_readItem_10 rfl rfl ?_
  refine a_dup (pc := 11) dX3_readItem_11 rfl ?_
  refine a_geti (pc := 12) fl_X3_38 (by assumption) (by decide) (by rfl) dX3_readItem_12 ?_
  refine a_top (y := nI p) hp4 ?_
  refine a_iconst (pc := 15) (v := 1) dX3_readItem_15 (by decide) ?_
  refine a_iaddN (pc := 16) (a := _) (b := 1) rfl rfl dX3_readItem_16 ?_
  refine a_puti (pc := 17) fp_X3_38 (by assumption) (by decide) (by rfl) dX3_readItem_17 ?_
  rw [rd_in]
  refine a_aload_n (pc := 20) dX3_readItem_20 rfl rfl ?_
  refine a_iload_n (pc := 21) dX3_readItem_21 rfl rfl ?_
  refine a_callI1 (pc := 22) ck_X3_45 ⟨(Nat.le_of_ble_eq_true rfl), (Nat.le_of_ble_eq_true rfl)⟩ (by assumption) (by decide) (Nat.le_of_ble_eq_true rfl) dX3_readItem_22 rfl c_X3_numbersBehind119 ?_
  rintro r_ u ⟨rfl, rfl⟩
  refine a_istore_n (pc := 25) (al' := [some (.ref _), some (.int _), some (.int _)]) dX3_readItem_25 rfl (by decide) rfl rfl ?_
  refine a_iload_n (pc := 26) dX3_readItem_26 rfl rfl ?_
  refine a_if_eq (pc := 27) (tgt := 38) dX3_readItem_27 (by decide) (fun c_27 => ?_) (fun c_27 => ?_)
  · exact absurd c_27 (by decide)
  · refine a_aload_n (pc := 30) dX3_readItem_30 rfl rfl ?_
    refine a_iload_n (pc := 31) dX3_readItem_31 rfl rfl ?_
    refine a_callI1 (pc := 32) ck_X3_49 ⟨(Nat.le_of_ble_eq_true rfl), (Nat.le_of_ble_eq_true rfl)⟩ (by assumption) (by decide) (Nat.le_of_ble_eq_true rfl) dX3_readItem_32 rfl (c_X3_readNumbers2 hT (by omega)) ?_
    rintro r u hr
    refine a_if_ne (pc := 35) (tgt := 40) dX3_readItem_35 (by decide) (fun c_35 => ?_) (fun c_35 => ?_)
    · obtain ⟨-, hcond, rfl⟩ := hr.resolve_right (fun w => c_35 w.1)
      refine a_iload_n (pc := 40) dX3_readItem_40 rfl rfl ?_
      refine a_bipush (pc := 41) (v := 110) dX3_readItem_41 (by decide) ?_
      refine a_icmp_ne (pc := 43) (tgt := 57) dX3_readItem_43 (by decide) (fun c_43 => ?_) (fun c_43 => ?_)
      · refine a_aload_n (pc := 57) dX3_readItem_57 rfl rfl ?_
        refine a_getr (pc := 58) fl_X3_19 (by assumption) (by decide) (by rfl) dX3_readItem_58 ?_
        refine a_geti (pc := 61) fl_X3_56 (by assumption) (by decide) (by rfl) dX3_readItem_61 ?_
        refine a_top (y := nI N) (by rw [rd_x (by omega) (by omega)]; exact h0) ?_
        refine a_if_le (pc := 64) (tgt := 97) dX3_readItem_64 (by decide) (fun c_64 => ?_) (fun c_64 => ?_)
        · have n_64 : N ≤ 0 := (nI_leI (a := N) (b := 0) (by omega) (by omega)).mp c_64
          refine a_iconst (pc := 97) (v := 0) dX3_readItem_97 (by decide) ?_
          refine a_zret (pc := 98) rfl (by rfl) dX3_readItem_98 ?_
          first
          | (have w := hr2.resolve_right (fun w => c_90 w.1); exact Or.inl ⟨rfl, ⟨hcond, n_64, w.2.1⟩, w.2.2⟩)
          | (have w := hr2.resolve_left (fun w => absurd (w.1.symm.trans c_90) (by decide)); exact Or.inr ⟨rfl, fun q => w.2.1 q.2.2, _, _, w.2.2⟩)
          | exact Or.inr ⟨rfl, fun q => absurd q.2.1 (by omega), _, _, rfl⟩
        · have n_64 : 0 < N := (nI_ltI (a := 0) (b := N) (by omega) (by omega)).mp (Int32.not_le.mp c_64)
          refine a_aload_n (pc := 67) dX3_readItem_67 rfl rfl ?_
          refine a_iload_n (pc := 68) dX3_readItem_68 rfl rfl ?_
          refine a_aload_n (pc := 69) dX3_readItem_69 rfl rfl ?_
          refine a_getr (pc := 70) fl_X3_11 (by assumption) (by decide) (by rfl) dX3_readItem_70 ?_
          refine a_iconst (pc := 73) (v := 0) dX3_readItem_73 (by decide) ?_
          refine a_iald (pc := 74) (j := 0) (by assumption) rfl (by omega) (by decide) dX3_readItem_74 ?_
          refine a_top (y := nI (nV tx l (p + 1))) (by rw [rd_g]; simp [upd_ap]) ?_
          refine a_aload_n (pc := 75) dX3_readItem_75 rfl rfl ?_
          refine a_getr (pc := 76) fl_X3_11 (by assumption) (by decide) (by rfl) dX3_readItem_76 ?_
          refine a_iconst (pc := 79) (v := 1) dX3_readItem_79 (by decide) ?_
          refine a_iald (pc := 80) (j := 1) (by assumption) rfl (by omega) (by decide) dX3_readItem_80 ?_
          refine a_top (y := nI (nV tx l (nE tx l (p + 1) + 1))) (by rw [rd_g]; simp [upd_ap]) ?_
          refine a_aload_n (pc := 81) dX3_readItem_81 rfl rfl ?_
          refine a_getr (pc := 82) fl_X3_11 (by assumption) (by decide) (by rfl) dX3_readItem_82 ?_
          refine a_iconst (pc := 85) (v := 2) dX3_readItem_85 (by decide) ?_
          refine a_iald (pc := 86) (j := 2) (by assumption) rfl (by omega) (by decide) dX3_readItem_86 ?_
          refine a_callI4 (pc := 87) ck_X3_59 ⟨(Nat.le_of_ble_eq_true rfl), (Nat.le_of_ble_eq_true rfl)⟩ (by assumption) (by decide) (Nat.le_of_ble_eq_true rfl) dX3_readItem_87 rfl (c_X3_applyItem119 nV_lt nV_lt) ?_
          rintro r2 u hr2
          refine a_if_eq (pc := 90) (tgt := 97) dX3_readItem_90 (by decide) (fun c_90 => ?_) (fun c_90 => ?_)
          · refine a_iconst (pc := 97) (v := 0) dX3_readItem_97 (by decide) ?_
            refine a_zret (pc := 98) rfl (by rfl) dX3_readItem_98 ?_
            first
            | (have w := hr2.resolve_right (fun w => c_90 w.1); exact Or.inl ⟨rfl, ⟨hcond, n_64, w.2.1⟩, w.2.2⟩)
            | (have w := hr2.resolve_left (fun w => absurd (w.1.symm.trans c_90) (by decide)); exact Or.inr ⟨rfl, fun q => w.2.1 q.2.2, _, _, w.2.2⟩)
            | exact Or.inr ⟨rfl, fun q => absurd q.2.1 (by omega), _, _, rfl⟩
          · refine a_iconst (pc := 93) (v := 1) dX3_readItem_93 (by decide) ?_
            refine a_goto (pc := 94) (tgt := 98) dX3_readItem_94 (by decide) ?_
            refine a_zret (pc := 98) rfl (by rfl) dX3_readItem_98 ?_
            first
            | (have w := hr2.resolve_right (fun w => c_90 w.1); exact Or.inl ⟨rfl, ⟨hcond, n_64, w.2.1⟩, w.2.2⟩)
            | (have w := hr2.resolve_left (fun w => absurd (w.1.symm.trans c_90) (by decide)); exact Or.inr ⟨rfl, fun q => w.2.1 q.2.2, _, _, w.2.2⟩)
            | exact Or.inr ⟨rfl, fun q => absurd q.2.1 (by omega), _, _, rfl⟩
      · exact absurd c_43 (by decide)
    · refine a_iconst (pc := 38) (v := 0) dX3_readItem_38 (by decide) ?_
      refine a_zret (pc := 39) rfl (by rfl) dX3_readItem_39 ?_
      exact Or.inr ⟨rfl, fun q => (hr.resolve_left (fun w => absurd (w.1.symm.trans c_35) (by decide))).2.1 q.1, (hr.resolve_left (fun w => absurd (w.1.symm.trans c_35) (by decide))).2.2⟩

set_option maxHeartbeats 4000000 in
set_option maxRecDepth 100000 in
theorem c_X3_readItem116 {μ : Mem} {tx : Nat → Nat} {l p N : Nat} (hT : RT μ tx l) (hp4 : μ 104 4 = nI p) (hpl : p < l) (htx : tx p = 116) (h0 : μ 53 0 = nI N) (hN : N ≤ 6)  : Con shC mX3_readItem [.ref 104] μ (fun r u => (r = 1 ∧ (okN tx l (p + 1) 2 ∧ 0 < N ∧ 1 ≤ (nV tx l (p + 1)) ∧ (nV tx l (p + 1)) ≤ 10 ∧ 1 ≤ (nV tx l (nE tx l (p + 1) + 1)) ∧ (nV tx l (nE tx l (p + 1) + 1)) ≤ 7) ∧ u = up2 (up2 (rdM μ (nE tx l (nE tx l (p + 1) + 1) + 1) (upd (upd (μ 105) 0 (nI (nV tx l (p + 1)))) 1 (nI (nV tx l (nE tx l (p + 1) + 1))))) 53 3 (nI (nV tx l (p + 1)))) 53 4 (nI (nV tx l (nE tx l (p + 1) + 1)))) ∨ (r = 0 ∧ ¬ (okN tx l (p + 1) 2 ∧ 0 < N ∧ 1 ≤ (nV tx l (p + 1)) ∧ (nV tx l (p + 1)) ≤ 10 ∧ 1 ≤ (nV tx l (nE tx l (p + 1) + 1)) ∧ (nV tx l (nE tx l (p + 1) + 1)) ≤ 7) ∧ ∃ p2 g2, u = rdM μ p2 g2)) := by
  have z1 : shC[1]? = some (101, 200, []) := rfl
  have r0 : shC[104]? = some (3, 5, [some 1, some 53, some 105, none, none]) := rfl
  have r1 : shC[105]? = some (100, 3, []) := rfl
  have hn := net_53
  obtain ⟨hn0, hn1, hn2, hnS⟩ := id hn
  obtain ⟨hE, hTx, hTX⟩ := id hT
  have hl200 := hTX.1
  refine Con.ofAW (al0 := [some (.ref 104), none, none]) (by decide) rfl (Nat.le_of_ble_eq_true rfl) rfl ?_
  refine a_aload_n (pc := 0) dX3_readItem_0 rfl rfl ?_
  refine a_getr (pc := 1) fl_X3_15 (by assumption) (by decide) (by rfl) dX3_readItem_1 ?_
  refine a_aload_n (pc := 4) dX3_readItem_4 rfl rfl ?_
  refine a_geti (pc := 5) fl_X3_38 (by assumption) (by decide) (by rfl) dX3_readItem_5 ?_
  refine a_cald (pc := 8) (j := p) (by assumption) hp4 (by omega) (by decide) dX3_readItem_8 ?_
  refine a_top (y := 116) (by rw [hTx p hpl, htx]; rfl) ?_
  refine a_istore_n (pc := 9) (al' := [some (.ref _), some (.int _), none]) dX3_readItem_9 rfl (by decide) rfl rfl ?_
  refine a_aload_n (pc := 10) dX3_readItem_10 rfl rfl ?_
  refine a_dup (pc := 11) dX3_readItem_11 rfl ?_
  refine a_geti (pc := 12) fl_X3_38 (by assumption) (by decide) (by rfl) dX3_readItem_12 ?_
  refine a_top (y := nI p) hp4 ?_
  refine a_iconst (pc := 15) (v := 1) dX3_readItem_15 (by decide) ?_
  refine a_iaddN (pc := 16) (a := _) (b := 1) rfl rfl dX3_readItem_16 ?_
  refine a_puti (pc := 17) fp_X3_38 (by assumption) (by decide) (by rfl) dX3_readItem_17 ?_
  rw [rd_in]
  refine a_aload_n (pc := 20) dX3_readItem_20 rfl rfl ?_
  refine a_iload_n (pc := 21) dX3_readItem_21 rfl rfl ?_
  refine a_callI1 (pc := 22) ck_X3_45 ⟨(Nat.le_of_ble_eq_true rfl), (Nat.le_of_ble_eq_true rfl)⟩ (by assumption) (by decide) (Nat.le_of_ble_eq_true rfl) dX3_readItem_22 rfl c_X3_numbersBehind116 ?_
  rintro r_ u ⟨rfl, rfl⟩
  refine a_istore_n (pc := 25) (al' := [some (.ref _), some (.int _), some (.int _)]) dX3_readItem_25 rfl (by decide) rfl rfl ?_
  refine a_iload_n (pc := 26) dX3_readItem_26 rfl rfl ?_
  refine a_if_eq (pc := 27) (tgt := 38) dX3_readItem_27 (by decide) (fun c_27 => ?_) (fun c_27 => ?_)
  · exact absurd c_27 (by decide)
  · refine a_aload_n (pc := 30) dX3_readItem_30 rfl rfl ?_
    refine a_iload_n (pc := 31) dX3_readItem_31 rfl rfl ?_
    refine a_callI1 (pc := 32) ck_X3_49 ⟨(Nat.le_of_ble_eq_true rfl), (Nat.le_of_ble_eq_true rfl)⟩ (by assumption) (by decide) (Nat.le_of_ble_eq_true rfl) dX3_readItem_32 rfl (c_X3_readNumbers2 hT (by omega)) ?_
    rintro r u hr
    refine a_if_ne (pc := 35) (tgt := 40) dX3_readItem_35 (by decide) (fun c_35 => ?_) (fun c_35 => ?_)
    · obtain ⟨-, hcond, rfl⟩ := hr.resolve_right (fun w => c_35 w.1)
      refine a_iload_n (pc := 40) dX3_readItem_40 rfl rfl ?_
      refine a_bipush (pc := 41) (v := 110) dX3_readItem_41 (by decide) ?_
      refine a_icmp_ne (pc := 43) (tgt := 57) dX3_readItem_43 (by decide) (fun c_43 => ?_) (fun c_43 => ?_)
      · refine a_aload_n (pc := 57) dX3_readItem_57 rfl rfl ?_
        refine a_getr (pc := 58) fl_X3_19 (by assumption) (by decide) (by rfl) dX3_readItem_58 ?_
        refine a_geti (pc := 61) fl_X3_56 (by assumption) (by decide) (by rfl) dX3_readItem_61 ?_
        refine a_top (y := nI N) (by rw [rd_x (by omega) (by omega)]; exact h0) ?_
        refine a_if_le (pc := 64) (tgt := 97) dX3_readItem_64 (by decide) (fun c_64 => ?_) (fun c_64 => ?_)
        · have n_64 : N ≤ 0 := (nI_leI (a := N) (b := 0) (by omega) (by omega)).mp c_64
          refine a_iconst (pc := 97) (v := 0) dX3_readItem_97 (by decide) ?_
          refine a_zret (pc := 98) rfl (by rfl) dX3_readItem_98 ?_
          first
          | (have w := hr2.resolve_right (fun w => c_90 w.1); exact Or.inl ⟨rfl, ⟨hcond, n_64, w.2.1⟩, w.2.2⟩)
          | (have w := hr2.resolve_left (fun w => absurd (w.1.symm.trans c_90) (by decide)); exact Or.inr ⟨rfl, fun q => w.2.1 q.2.2, _, _, w.2.2⟩)
          | exact Or.inr ⟨rfl, fun q => absurd q.2.1 (by omega), _, _, rfl⟩
        · have n_64 : 0 < N := (nI_ltI (a := 0) (b := N) (by omega) (by omega)).mp (Int32.not_le.mp c_64)
          refine a_aload_n (pc := 67) dX3_readItem_67 rfl rfl ?_
          refine a_iload_n (pc := 68) dX3_readItem_68 rfl rfl ?_
          refine a_aload_n (pc := 69) dX3_readItem_69 rfl rfl ?_
          refine a_getr (pc := 70) fl_X3_11 (by assumption) (by decide) (by rfl) dX3_readItem_70 ?_
          refine a_iconst (pc := 73) (v := 0) dX3_readItem_73 (by decide) ?_
          refine a_iald (pc := 74) (j := 0) (by assumption) rfl (by omega) (by decide) dX3_readItem_74 ?_
          refine a_top (y := nI (nV tx l (p + 1))) (by rw [rd_g]; simp [upd_ap]) ?_
          refine a_aload_n (pc := 75) dX3_readItem_75 rfl rfl ?_
          refine a_getr (pc := 76) fl_X3_11 (by assumption) (by decide) (by rfl) dX3_readItem_76 ?_
          refine a_iconst (pc := 79) (v := 1) dX3_readItem_79 (by decide) ?_
          refine a_iald (pc := 80) (j := 1) (by assumption) rfl (by omega) (by decide) dX3_readItem_80 ?_
          refine a_top (y := nI (nV tx l (nE tx l (p + 1) + 1))) (by rw [rd_g]; simp [upd_ap]) ?_
          refine a_aload_n (pc := 81) dX3_readItem_81 rfl rfl ?_
          refine a_getr (pc := 82) fl_X3_11 (by assumption) (by decide) (by rfl) dX3_readItem_82 ?_
          refine a_iconst (pc := 85) (v := 2) dX3_readItem_85 (by decide) ?_
          refine a_iald (pc := 86) (j := 2) (by assumption) rfl (by omega) (by decide) dX3_readItem_86 ?_
          refine a_callI4 (pc := 87) ck_X3_59 ⟨(Nat.le_of_ble_eq_true rfl), (Nat.le_of_ble_eq_true rfl)⟩ (by assumption) (by decide) (Nat.le_of_ble_eq_true rfl) dX3_readItem_87 rfl (c_X3_applyItem116 nV_lt nV_lt) ?_
          rintro r2 u hr2
          refine a_if_eq (pc := 90) (tgt := 97) dX3_readItem_90 (by decide) (fun c_90 => ?_) (fun c_90 => ?_)
          · refine a_iconst (pc := 97) (v := 0) dX3_readItem_97 (by decide) ?_
            refine a_zret (pc := 98) rfl (by rfl) dX3_readItem_98 ?_
            first
            | (have w := hr2.resolve_right (fun w => c_90 w.1); exact Or.inl ⟨rfl, ⟨hcond, n_64, w.2.1⟩, w.2.2⟩)
            | (have w := hr2.resolve_left (fun w => absurd (w.1.symm.trans c_90) (by decide)); exact Or.inr ⟨rfl, fun q => w.2.1 q.2.2, _, _, w.2.2⟩)
            | exact Or.inr ⟨rfl, fun q => absurd q.2.1 (by omega), _, _, rfl⟩
          · refine a_iconst (pc := 93) (v := 1) dX3_readItem_93 (by decide) ?_
            refine a_goto (pc := 94) (tgt := 98) dX3_readItem_94 (by decide) ?_
            refine a_zret (pc := 98) rfl (by rfl) dX3_readItem_98 ?_
            first
            | (have w := hr2.resolve_right (fun w => c_90 w.1); exact Or.inl ⟨rfl, ⟨hcond, n_64, w.2.1⟩, w.2.2⟩)
            | (have w := hr2.resolve_left (fun w => absurd (w.1.symm.trans c_90) (by decide)); exact Or.inr ⟨rfl, fun q => w.2.1 q.2.2, _, _, w.2.2⟩)
            | exact Or.inr ⟨rfl, fun q => absurd q.2.1 (by omega), _, _, rfl⟩
      · exact absurd c_43 (by decide)
    · refine a_iconst (pc := 38) (v := 0) dX3_readItem_38 (by decide) ?_
      refine a_zret (pc := 39) rfl (by rfl) dX3_readItem_39 ?_
      exact Or.inr ⟨rfl, fun q => (hr.resolve_left (fun w => absurd (w.1.symm.trans c_35) (by decide))).2.1 q.1, (hr.resolve_left (fun w => absurd (w.1.symm.trans c_35) (by decide))).2.2⟩

set_option maxHeartbeats 4000000 in
set_option maxRecDepth 100000 in
theorem c_X3_readItem122 {μ : Mem} {tx : Nat → Nat} {l p N : Nat} (hT : RT μ tx l) (hp4 : μ 104 4 = nI p) (hpl : p < l) (htx : tx p = 122) (h0 : μ 53 0 = nI N) (hN : N ≤ 6)  : Con shC mX3_readItem [.ref 104] μ (fun r u => (r = 1 ∧ (okN tx l (p + 1) 1 ∧ 0 < N) ∧ u = up2 (rdM μ (nE tx l (p + 1) + 1) (upd (μ 105) 0 (nI (nV tx l (p + 1))))) 53 5 (nI (nV tx l (p + 1)))) ∨ (r = 0 ∧ ¬ (okN tx l (p + 1) 1 ∧ 0 < N) ∧ ∃ p2 g2, u = rdM μ p2 g2)) := by
  have z1 : shC[1]? = some (101, 200, []) := rfl
  have r0 : shC[104]? = some (3, 5, [some 1, some 53, some 105, none, none]) := rfl
  have r1 : shC[105]? = some (100, 3, []) := rfl
  have hn := net_53
  obtain ⟨hn0, hn1, hn2, hnS⟩ := id hn
  obtain ⟨hE, hTx, hTX⟩ := id hT
  have hl200 := hTX.1
  refine Con.ofAW (al0 := [some (.ref 104), none, none]) (by decide) rfl (Nat.le_of_ble_eq_true rfl) rfl ?_
  refine a_aload_n (pc := 0) dX3_readItem_0 rfl rfl ?_
  refine a_getr (pc := 1) fl_X3_15 (by assumption) (by decide) (by rfl) dX3_readItem_1 ?_
  refine a_aload_n (pc := 4) dX3_readItem_4 rfl rfl ?_
  refine a_geti (pc := 5) fl_X3_38 (by assumption) (by decide) (by rfl) dX3_readItem_5 ?_
  refine a_cald (pc := 8) (j := p) (by assumption) hp4 (by omega) (by decide) dX3_readItem_8 ?_
  refine a_top (y := 122) (by rw [hTx p hpl, htx]; rfl) ?_
  refine a_istore_n (pc := 9) (al' := [some (.ref _), some (.int _), none]) dX3_readItem_9 rfl (by decide) rfl rfl ?_
  refine a_aload_n (pc := 10) dX3_readItem_10 rfl rfl ?_
  refine a_dup (pc := 11) dX3_readItem_11 rfl ?_
  refine a_geti (pc := 12) fl_X3_38 (by assumption) (by decide) (by rfl) dX3_readItem_12 ?_
  refine a_top (y := nI p) hp4 ?_
  refine a_iconst (pc := 15) (v := 1) dX3_readItem_15 (by decide) ?_
  refine a_iaddN (pc := 16) (a := _) (b := 1) rfl rfl dX3_readItem_16 ?_
  refine a_puti (pc := 17) fp_X3_38 (by assumption) (by decide) (by rfl) dX3_readItem_17 ?_
  rw [rd_in]
  refine a_aload_n (pc := 20) dX3_readItem_20 rfl rfl ?_
  refine a_iload_n (pc := 21) dX3_readItem_21 rfl rfl ?_
  refine a_callI1 (pc := 22) ck_X3_45 ⟨(Nat.le_of_ble_eq_true rfl), (Nat.le_of_ble_eq_true rfl)⟩ (by assumption) (by decide) (Nat.le_of_ble_eq_true rfl) dX3_readItem_22 rfl c_X3_numbersBehind122 ?_
  rintro r_ u ⟨rfl, rfl⟩
  refine a_istore_n (pc := 25) (al' := [some (.ref _), some (.int _), some (.int _)]) dX3_readItem_25 rfl (by decide) rfl rfl ?_
  refine a_iload_n (pc := 26) dX3_readItem_26 rfl rfl ?_
  refine a_if_eq (pc := 27) (tgt := 38) dX3_readItem_27 (by decide) (fun c_27 => ?_) (fun c_27 => ?_)
  · exact absurd c_27 (by decide)
  · refine a_aload_n (pc := 30) dX3_readItem_30 rfl rfl ?_
    refine a_iload_n (pc := 31) dX3_readItem_31 rfl rfl ?_
    refine a_callI1 (pc := 32) ck_X3_49 ⟨(Nat.le_of_ble_eq_true rfl), (Nat.le_of_ble_eq_true rfl)⟩ (by assumption) (by decide) (Nat.le_of_ble_eq_true rfl) dX3_readItem_32 rfl (c_X3_readNumbers1 hT (by omega)) ?_
    rintro r u hr
    refine a_if_ne (pc := 35) (tgt := 40) dX3_readItem_35 (by decide) (fun c_35 => ?_) (fun c_35 => ?_)
    · obtain ⟨-, hcond, rfl⟩ := hr.resolve_right (fun w => c_35 w.1)
      refine a_iload_n (pc := 40) dX3_readItem_40 rfl rfl ?_
      refine a_bipush (pc := 41) (v := 110) dX3_readItem_41 (by decide) ?_
      refine a_icmp_ne (pc := 43) (tgt := 57) dX3_readItem_43 (by decide) (fun c_43 => ?_) (fun c_43 => ?_)
      · refine a_aload_n (pc := 57) dX3_readItem_57 rfl rfl ?_
        refine a_getr (pc := 58) fl_X3_19 (by assumption) (by decide) (by rfl) dX3_readItem_58 ?_
        refine a_geti (pc := 61) fl_X3_56 (by assumption) (by decide) (by rfl) dX3_readItem_61 ?_
        refine a_top (y := nI N) (by rw [rd_x (by omega) (by omega)]; exact h0) ?_
        refine a_if_le (pc := 64) (tgt := 97) dX3_readItem_64 (by decide) (fun c_64 => ?_) (fun c_64 => ?_)
        · have n_64 : N ≤ 0 := (nI_leI (a := N) (b := 0) (by omega) (by omega)).mp c_64
          refine a_iconst (pc := 97) (v := 0) dX3_readItem_97 (by decide) ?_
          refine a_zret (pc := 98) rfl (by rfl) dX3_readItem_98 ?_
          first
          | exact Or.inl ⟨rfl, ⟨hcond, n_64⟩, rfl⟩
          | exact Or.inr ⟨rfl, fun q => absurd q.2 (by omega), _, _, rfl⟩
        · have n_64 : 0 < N := (nI_ltI (a := 0) (b := N) (by omega) (by omega)).mp (Int32.not_le.mp c_64)
          refine a_aload_n (pc := 67) dX3_readItem_67 rfl rfl ?_
          refine a_iload_n (pc := 68) dX3_readItem_68 rfl rfl ?_
          refine a_aload_n (pc := 69) dX3_readItem_69 rfl rfl ?_
          refine a_getr (pc := 70) fl_X3_11 (by assumption) (by decide) (by rfl) dX3_readItem_70 ?_
          refine a_iconst (pc := 73) (v := 0) dX3_readItem_73 (by decide) ?_
          refine a_iald (pc := 74) (j := 0) (by assumption) rfl (by omega) (by decide) dX3_readItem_74 ?_
          refine a_top (y := nI (nV tx l (p + 1))) (by rw [rd_g]; simp [upd_ap]) ?_
          refine a_aload_n (pc := 75) dX3_readItem_75 rfl rfl ?_
          refine a_getr (pc := 76) fl_X3_11 (by assumption) (by decide) (by rfl) dX3_readItem_76 ?_
          refine a_iconst (pc := 79) (v := 1) dX3_readItem_79 (by decide) ?_
          refine a_iald (pc := 80) (j := 1) (by assumption) rfl (by omega) (by decide) dX3_readItem_80 ?_
          refine a_aload_n (pc := 81) dX3_readItem_81 rfl rfl ?_
          refine a_getr (pc := 82) fl_X3_11 (by assumption) (by decide) (by rfl) dX3_readItem_82 ?_
          refine a_iconst (pc := 85) (v := 2) dX3_readItem_85 (by decide) ?_
          refine a_iald (pc := 86) (j := 2) (by assumption) rfl (by omega) (by decide) dX3_readItem_86 ?_
          refine a_callI4 (pc := 87) ck_X3_59 ⟨(Nat.le_of_ble_eq_true rfl), (Nat.le_of_ble_eq_true rfl)⟩ (by assumption) (by decide) (Nat.le_of_ble_eq_true rfl) dX3_readItem_87 rfl (c_X3_applyItem122 nV_lt) ?_
          rintro r2 u ⟨rfl, rfl⟩
          refine a_if_eq (pc := 90) (tgt := 97) dX3_readItem_90 (by decide) (fun c_90 => ?_) (fun c_90 => ?_)
          · exact absurd c_90 (by decide)
          · refine a_iconst (pc := 93) (v := 1) dX3_readItem_93 (by decide) ?_
            refine a_goto (pc := 94) (tgt := 98) dX3_readItem_94 (by decide) ?_
            refine a_zret (pc := 98) rfl (by rfl) dX3_readItem_98 ?_
            first
            | exact Or.inl ⟨rfl, ⟨hcond, n_64⟩, rfl⟩
            | exact Or.inr ⟨rfl, fun q => absurd q.2 (by omega), _, _, rfl⟩
      · exact absurd c_43 (by decide)
    · refine a_iconst (pc := 38) (v := 0) dX3_readItem_38 (by decide) ?_
      refine a_zret (pc := 39) rfl (by rfl) dX3_readItem_39 ?_
      exact Or.inr ⟨rfl, fun q => (hr.resolve_left (fun w => absurd (w.1.symm.trans c_35) (by decide))).2.1 q.1, (hr.resolve_left (fun w => absurd (w.1.symm.trans c_35) (by decide))).2.2⟩

set_option maxHeartbeats 4000000 in
set_option maxRecDepth 100000 in
theorem c_X3_readItem108 {μ : Mem} {tx : Nat → Nat} {l p N : Nat} (hT : RT μ tx l) (hp4 : μ 104 4 = nI p) (hpl : p < l) (htx : tx p = 108) (h0 : μ 53 0 = nI N) (hN : N ≤ 6) {sz : Nat → Nat} (hs : ∀ i, i < 6 → μ (stA 53 i + 1) 0 = nI (sz i) ∧ sz i ≤ 6)  : Con shC mX3_readItem [.ref 104] μ (fun r u => (r = 1 ∧ (okN tx l (p + 1) 3 ∧ 0 < N ∧ (nV tx l (p + 1)) < N ∧ (nV tx l (nE tx l (p + 1) + 1)) < N ∧ (nV tx l (p + 1)) ≠ (nV tx l (nE tx l (p + 1) + 1)) ∧ 1 ≤ (nV tx l (nE tx l (nE tx l (p + 1) + 1) + 1)) ∧ (nV tx l (nE tx l (nE tx l (p + 1) + 1) + 1)) ≤ 9 ∧ bitF (μ (stA 53 (nV tx l (p + 1))) 0) (nI (nV tx l (nE tx l (p + 1) + 1))) ∧ sz (nV tx l (p + 1)) < 6) ∧ u = addF (rdM μ (nE tx l (nE tx l (nE tx l (p + 1) + 1) + 1) + 1) (upd (upd (upd (μ 105) 0 (nI (nV tx l (p + 1)))) 1 (nI (nV tx l (nE tx l (p + 1) + 1)))) 2 (nI (nV tx l (nE tx l (nE tx l (p + 1) + 1) + 1))))) (stA 53 (nV tx l (p + 1)) + 1) (sz (nV tx l (p + 1))) (nI (nV tx l (nE tx l (p + 1) + 1))) (nI (nV tx l (nE tx l (nE tx l (p + 1) + 1) + 1)))) ∨ (r = 0 ∧ ¬ (okN tx l (p + 1) 3 ∧ 0 < N ∧ (nV tx l (p + 1)) < N ∧ (nV tx l (nE tx l (p + 1) + 1)) < N ∧ (nV tx l (p + 1)) ≠ (nV tx l (nE tx l (p + 1) + 1)) ∧ 1 ≤ (nV tx l (nE tx l (nE tx l (p + 1) + 1) + 1)) ∧ (nV tx l (nE tx l (nE tx l (p + 1) + 1) + 1)) ≤ 9 ∧ bitF (μ (stA 53 (nV tx l (p + 1))) 0) (nI (nV tx l (nE tx l (p + 1) + 1))) ∧ sz (nV tx l (p + 1)) < 6) ∧ ∃ p2 g2, u = rdM μ p2 g2)) := by
  have z1 : shC[1]? = some (101, 200, []) := rfl
  have r0 : shC[104]? = some (3, 5, [some 1, some 53, some 105, none, none]) := rfl
  have r1 : shC[105]? = some (100, 3, []) := rfl
  have hn := net_53
  obtain ⟨hn0, hn1, hn2, hnS⟩ := id hn
  obtain ⟨hE, hTx, hTX⟩ := id hT
  have hl200 := hTX.1
  refine Con.ofAW (al0 := [some (.ref 104), none, none]) (by decide) rfl (Nat.le_of_ble_eq_true rfl) rfl ?_
  refine a_aload_n (pc := 0) dX3_readItem_0 rfl rfl ?_
  refine a_getr (pc := 1) fl_X3_15 (by assumption) (by decide) (by rfl) dX3_readItem_1 ?_
  refine a_aload_n (pc := 4) dX3_readItem_4 rfl rfl ?_
  refine a_geti (pc := 5) fl_X3_38 (by assumption) (by decide) (by rfl) dX3_readItem_5 ?_
  refine a_cald (pc := 8) (j := p) (by assumption) hp4 (by omega) (by decide) dX3_readItem_8 ?_
  refine a_top (y := 108) (by rw [hTx p hpl, htx]; rfl) ?_
  refine a_istore_n (pc := 9) (al' := [some (.ref _), some (.int _), none]) dX3_readItem_9 rfl (by decide) rfl rfl ?_
  refine a_aload_n (pc := 10) dX3_readItem_10 rfl rfl ?_
  refine a_dup (pc := 11) dX3_readItem_11 rfl ?_
  refine a_geti (pc := 12) fl_X3_38 (by assumption) (by decide) (by rfl) dX3_readItem_12 ?_
  refine a_top (y := nI p) hp4 ?_
  refine a_iconst (pc := 15) (v := 1) dX3_readItem_15 (by decide) ?_
  refine a_iaddN (pc := 16) (a := _) (b := 1) rfl rfl dX3_readItem_16 ?_
  refine a_puti (pc := 17) fp_X3_38 (by assumption) (by decide) (by rfl) dX3_readItem_17 ?_
  rw [rd_in]
  refine a_aload_n (pc := 20) dX3_readItem_20 rfl rfl ?_
  refine a_iload_n (pc := 21) dX3_readItem_21 rfl rfl ?_
  refine a_callI1 (pc := 22) ck_X3_45 ⟨(Nat.le_of_ble_eq_true rfl), (Nat.le_of_ble_eq_true rfl)⟩ (by assumption) (by decide) (Nat.le_of_ble_eq_true rfl) dX3_readItem_22 rfl c_X3_numbersBehind108 ?_
  rintro r_ u ⟨rfl, rfl⟩
  refine a_istore_n (pc := 25) (al' := [some (.ref _), some (.int _), some (.int _)]) dX3_readItem_25 rfl (by decide) rfl rfl ?_
  refine a_iload_n (pc := 26) dX3_readItem_26 rfl rfl ?_
  refine a_if_eq (pc := 27) (tgt := 38) dX3_readItem_27 (by decide) (fun c_27 => ?_) (fun c_27 => ?_)
  · exact absurd c_27 (by decide)
  · refine a_aload_n (pc := 30) dX3_readItem_30 rfl rfl ?_
    refine a_iload_n (pc := 31) dX3_readItem_31 rfl rfl ?_
    refine a_callI1 (pc := 32) ck_X3_49 ⟨(Nat.le_of_ble_eq_true rfl), (Nat.le_of_ble_eq_true rfl)⟩ (by assumption) (by decide) (Nat.le_of_ble_eq_true rfl) dX3_readItem_32 rfl (c_X3_readNumbers3 hT (by omega)) ?_
    rintro r u hr
    refine a_if_ne (pc := 35) (tgt := 40) dX3_readItem_35 (by decide) (fun c_35 => ?_) (fun c_35 => ?_)
    · obtain ⟨-, hcond, rfl⟩ := hr.resolve_right (fun w => c_35 w.1)
      refine a_iload_n (pc := 40) dX3_readItem_40 rfl rfl ?_
      refine a_bipush (pc := 41) (v := 110) dX3_readItem_41 (by decide) ?_
      refine a_icmp_ne (pc := 43) (tgt := 57) dX3_readItem_43 (by decide) (fun c_43 => ?_) (fun c_43 => ?_)
      · refine a_aload_n (pc := 57) dX3_readItem_57 rfl rfl ?_
        refine a_getr (pc := 58) fl_X3_19 (by assumption) (by decide) (by rfl) dX3_readItem_58 ?_
        refine a_geti (pc := 61) fl_X3_56 (by assumption) (by decide) (by rfl) dX3_readItem_61 ?_
        refine a_top (y := nI N) (by rw [rd_x (by omega) (by omega)]; exact h0) ?_
        refine a_if_le (pc := 64) (tgt := 97) dX3_readItem_64 (by decide) (fun c_64 => ?_) (fun c_64 => ?_)
        · have n_64 : N ≤ 0 := (nI_leI (a := N) (b := 0) (by omega) (by omega)).mp c_64
          refine a_iconst (pc := 97) (v := 0) dX3_readItem_97 (by decide) ?_
          refine a_zret (pc := 98) rfl (by rfl) dX3_readItem_98 ?_
          first
          | (have w := hr2.resolve_right (fun w => c_90 w.1)
             obtain ⟨-, ⟨w1, w2, w3, w4, w5, wb, w7⟩, w8⟩ := w
             rw [rd_x (by unfold stA; omega) (by unfold stA; omega)] at wb
             exact Or.inl ⟨rfl, ⟨hcond, n_64, w1, w2, w3, w4, w5, wb, w7⟩, w8⟩)
          | (have w := hr2.resolve_left (fun w => absurd (w.1.symm.trans c_90) (by decide))
             refine Or.inr ⟨rfl, fun q => w.2.1 ?_, _, _, w.2.2⟩
             rw [rd_x (by unfold stA; omega) (by unfold stA; omega)]
             exact q.2.2)
          | exact Or.inr ⟨rfl, fun q => absurd q.2.1 (by omega), _, _, rfl⟩
        · have n_64 : 0 < N := (nI_ltI (a := 0) (b := N) (by omega) (by omega)).mp (Int32.not_le.mp c_64)
          refine a_aload_n (pc := 67) dX3_readItem_67 rfl rfl ?_
          refine a_iload_n (pc := 68) dX3_readItem_68 rfl rfl ?_
          refine a_aload_n (pc := 69) dX3_readItem_69 rfl rfl ?_
          refine a_getr (pc := 70) fl_X3_11 (by assumption) (by decide) (by rfl) dX3_readItem_70 ?_
          refine a_iconst (pc := 73) (v := 0) dX3_readItem_73 (by decide) ?_
          refine a_iald (pc := 74) (j := 0) (by assumption) rfl (by omega) (by decide) dX3_readItem_74 ?_
          refine a_top (y := nI (nV tx l (p + 1))) (by rw [rd_g]; simp [upd_ap]) ?_
          refine a_aload_n (pc := 75) dX3_readItem_75 rfl rfl ?_
          refine a_getr (pc := 76) fl_X3_11 (by assumption) (by decide) (by rfl) dX3_readItem_76 ?_
          refine a_iconst (pc := 79) (v := 1) dX3_readItem_79 (by decide) ?_
          refine a_iald (pc := 80) (j := 1) (by assumption) rfl (by omega) (by decide) dX3_readItem_80 ?_
          refine a_top (y := nI (nV tx l (nE tx l (p + 1) + 1))) (by rw [rd_g]; simp [upd_ap]) ?_
          refine a_aload_n (pc := 81) dX3_readItem_81 rfl rfl ?_
          refine a_getr (pc := 82) fl_X3_11 (by assumption) (by decide) (by rfl) dX3_readItem_82 ?_
          refine a_iconst (pc := 85) (v := 2) dX3_readItem_85 (by decide) ?_
          refine a_iald (pc := 86) (j := 2) (by assumption) rfl (by omega) (by decide) dX3_readItem_86 ?_
          refine a_top (y := nI (nV tx l (nE tx l (nE tx l (p + 1) + 1) + 1))) (by rw [rd_g]; simp [upd_ap]) ?_
          refine a_callI4 (pc := 87) ck_X3_59 ⟨(Nat.le_of_ble_eq_true rfl), (Nat.le_of_ble_eq_true rfl)⟩ (by assumption) (by decide) (Nat.le_of_ble_eq_true rfl) dX3_readItem_87 rfl (c_X3_applyItem108 (sz := sz) (by rw [rd_x (by omega) (by omega)]; exact h0) hN nV_lt nV_lt nV_lt (fun i hi => by rw [rd_x (by unfold stA; omega) (by unfold stA; omega)]; exact hs i hi)) ?_
          rintro r2 u hr2
          refine a_if_eq (pc := 90) (tgt := 97) dX3_readItem_90 (by decide) (fun c_90 => ?_) (fun c_90 => ?_)
          · refine a_iconst (pc := 97) (v := 0) dX3_readItem_97 (by decide) ?_
            refine a_zret (pc := 98) rfl (by rfl) dX3_readItem_98 ?_
            first
            | (have w := hr2.resolve_right (fun w => c_90 w.1)
               obtain ⟨-, ⟨w1, w2, w3, w4, w5, wb, w7⟩, w8⟩ := w
               rw [rd_x (by unfold stA; omega) (by unfold stA; omega)] at wb
               exact Or.inl ⟨rfl, ⟨hcond, n_64, w1, w2, w3, w4, w5, wb, w7⟩, w8⟩)
            | (have w := hr2.resolve_left (fun w => absurd (w.1.symm.trans c_90) (by decide))
               refine Or.inr ⟨rfl, fun q => w.2.1 ?_, _, _, w.2.2⟩
               rw [rd_x (by unfold stA; omega) (by unfold stA; omega)]
               exact q.2.2)
            | exact Or.inr ⟨rfl, fun q => absurd q.2.1 (by omega), _, _, rfl⟩
          · refine a_iconst (pc := 93) (v := 1) dX3_readItem_93 (by decide) ?_
            refine a_goto (pc := 94) (tgt := 98) dX3_readItem_94 (by decide) ?_
            refine a_zret (pc := 98) rfl (by rfl) dX3_readItem_98 ?_
            first
            | (have w := hr2.resolve_right (fun w => c_90 w.1)
               obtain ⟨-, ⟨w1, w2, w3, w4, w5, wb, w7⟩, w8⟩ := w
               rw [rd_x (by unfold stA; omega) (by unfold stA; omega)] at wb
               exact Or.inl ⟨rfl, ⟨hcond, n_64, w1, w2, w3, w4, w5, wb, w7⟩, w8⟩)
            | (have w := hr2.resolve_left (fun w => absurd (w.1.symm.trans c_90) (by decide))
               refine Or.inr ⟨rfl, fun q => w.2.1 ?_, _, _, w.2.2⟩
               rw [rd_x (by unfold stA; omega) (by unfold stA; omega)]
               exact q.2.2)
            | exact Or.inr ⟨rfl, fun q => absurd q.2.1 (by omega), _, _, rfl⟩
      · exact absurd c_43 (by decide)
    · refine a_iconst (pc := 38) (v := 0) dX3_readItem_38 (by decide) ?_
      refine a_zret (pc := 39) rfl (by rfl) dX3_readItem_39 ?_
      exact Or.inr ⟨rfl, fun q => (hr.resolve_left (fun w => absurd (w.1.symm.trans c_35) (by decide))).2.1 q.1, (hr.resolve_left (fun w => absurd (w.1.symm.trans c_35) (by decide))).2.2⟩

set_option maxHeartbeats 4000000 in
set_option maxRecDepth 100000 in
theorem c_X3_readItem0 {μ : Mem} {tx : Nat → Nat} {l p N : Nat} (hT : RT μ tx l) (hp4 : μ 104 4 = nI p) (hpl : p < l) (hx : tx p ≠ 104 ∧ tx p ≠ 108 ∧ tx p ≠ 110 ∧ tx p ≠ 116 ∧ tx p ≠ 119 ∧ tx p ≠ 122) : Con shC mX3_readItem [.ref 104] μ (fun r u => r = 0 ∧ ∃ p2 g2, u = rdM μ p2 g2) := by
  have z1 : shC[1]? = some (101, 200, []) := rfl
  have r0 : shC[104]? = some (3, 5, [some 1, some 53, some 105, none, none]) := rfl
  have r1 : shC[105]? = some (100, 3, []) := rfl
  have hn := net_53
  obtain ⟨hn0, hn1, hn2, hnS⟩ := id hn
  obtain ⟨hE, hTx, hTX⟩ := id hT
  have hl200 := hTX.1
  have htp := hTX.2 p hpl
  refine Con.ofAW (al0 := [some (.ref 104), none, none]) (by decide) rfl (Nat.le_of_ble_eq_true rfl) rfl ?_
  refine a_aload_n (pc := 0) dX3_readItem_0 rfl rfl ?_
  refine a_getr (pc := 1) fl_X3_15 (by assumption) (by decide) (by rfl) dX3_readItem_1 ?_
  refine a_aload_n (pc := 4) dX3_readItem_4 rfl rfl ?_
  refine a_geti (pc := 5) fl_X3_38 (by assumption) (by decide) (by rfl) dX3_readItem_5 ?_
  refine a_cald (pc := 8) (j := p) (by assumption) hp4 (by omega) (by decide) dX3_readItem_8 ?_
  refine a_top (y := nI (tx p)) (hTx p hpl) ?_
  refine a_istore_n (pc := 9) (al' := [some (.ref _), some (.int _), none]) dX3_readItem_9 rfl (by decide) rfl rfl ?_
  refine a_aload_n (pc := 10) dX3_readItem_10 rfl rfl ?_
  refine a_dup (pc := 11) dX3_readItem_11 rfl ?_
  refine a_geti (pc := 12) fl_X3_38 (by assumption) (by decide) (by rfl) dX3_readItem_12 ?_
  refine a_top (y := nI p) hp4 ?_
  refine a_iconst (pc := 15) (v := 1) dX3_readItem_15 (by decide) ?_
  refine a_iaddN (pc := 16) (a := _) (b := 1) rfl rfl dX3_readItem_16 ?_
  refine a_puti (pc := 17) fp_X3_38 (by assumption) (by decide) (by rfl) dX3_readItem_17 ?_
  rw [rd_in]
  refine a_aload_n (pc := 20) dX3_readItem_20 rfl rfl ?_
  refine a_iload_n (pc := 21) dX3_readItem_21 rfl rfl ?_
  refine a_callI1 (pc := 22) ck_X3_45 ⟨(Nat.le_of_ble_eq_true rfl), (Nat.le_of_ble_eq_true rfl)⟩ (by assumption) (by decide) (Nat.le_of_ble_eq_true rfl) dX3_readItem_22 rfl (c_X3_numbersBehind0 (by omega) hx) ?_
  rintro r_ u ⟨rfl, rfl⟩
  refine a_istore_n (pc := 25) (al' := [some (.ref _), some (.int _), some (.int _)]) dX3_readItem_25 rfl (by decide) rfl rfl ?_
  refine a_iload_n (pc := 26) dX3_readItem_26 rfl rfl ?_
  refine a_if_eq (pc := 27) (tgt := 38) dX3_readItem_27 (by decide) (fun c_27 => ?_) (fun c_27 => ?_)
  · refine a_iconst (pc := 38) (v := 0) dX3_readItem_38 (by decide) ?_
    refine a_zret (pc := 39) rfl (by rfl) dX3_readItem_39 ?_
    exact ⟨rfl, _, _, rfl⟩
  · exact absurd c_27 (by decide)

