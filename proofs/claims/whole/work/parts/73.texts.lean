/-! texts are read alike -/
theorem item_first {μ ν : Mem} {tx : Nat → Nat} {l p : Nat} (hT : RT μ tx l) (hp4 : μ 104 4 = nI p) (hpl : p < l) (hR : RDr μ ν p) (hp0 : p = 0) (hc : tx p ≠ 110) : Con shC mX3_readItem [.ref 104] μ (fun r u => r = 0 ∧ ∃ p2 g2, u = rdM μ p2 g2) := by
  obtain ⟨N, hm, sz, ⟨n1, n2, n3, n4⟩, hU, hZ, hK, hH, hS⟩ := hR
  have hN0 : N = 0 := by omega
  by_cases h104 : tx p = 104
  · refine Con.mono (c_X3_readItem104  hT hp4 hpl h104 n1 n3) ?_
    rintro r u (w | w)
    · exact absurd w.2.1.2.1 (by omega)
    · exact ⟨w.1, w.2.2⟩
  by_cases h108 : tx p = 108
  · refine Con.mono (c_X3_readItem108 (sz := sz) hT hp4 hpl h108 n1 n3 (fun i hi => ⟨(hS i hi).2.1, (hS i hi).2.2.2.1⟩)) ?_
    rintro r u (w | w)
    · exact absurd w.2.1.2.1 (by omega)
    · exact ⟨w.1, w.2.2⟩
  by_cases h116 : tx p = 116
  · refine Con.mono (c_X3_readItem116  hT hp4 hpl h116 n1 n3) ?_
    rintro r u (w | w)
    · exact absurd w.2.1.2.1 (by omega)
    · exact ⟨w.1, w.2.2⟩
  by_cases h119 : tx p = 119
  · refine Con.mono (c_X3_readItem119  hT hp4 hpl h119 n1 n3) ?_
    rintro r u (w | w)
    · exact absurd w.2.1.2.1 (by omega)
    · exact ⟨w.1, w.2.2⟩
  by_cases h122 : tx p = 122
  · refine Con.mono (c_X3_readItem122  hT hp4 hpl h122 n1 n3) ?_
    rintro r u (w | w)
    · exact absurd w.2.1.2 (by omega)
    · exact ⟨w.1, w.2.2⟩
  exact c_X3_readItem0 (N := N) hT hp4 hpl ⟨h104, h108, hc, h116, h119, h122⟩
theorem item_rel {μ ν : Mem} {tx : Nat → Nat} {l p : Nat} (hT : RT μ tx l) (hM : MT ν tx l) (hp4 : μ 104 4 = nI p) (hpl : p < l) (hR : RDr μ ν p) : ItemR μ ν tx l p (if p = 0 then 1 else 0) := by
  have htp := hT.2.2.2 p hpl
  by_cases hp0 : p = 0
  · rw [if_pos hp0]
    by_cases hc : tx p = 110
    · exact item_n hT hM hp4 hpl hR hp0 hc
    · refine Or.inl ⟨item_first hT hp4 hpl hR hp0 hc, (c_X7_readsItemF (by omega) hc).mono ?_⟩
      rintro r u ⟨rfl, rfl⟩
      exact ⟨FM.rf, Or.inl rfl⟩
  · rw [if_neg hp0]
    have hpp : 0 < p := by omega
    by_cases h110 : tx p = 110
    · obtain ⟨N, hm, sz, hN, -⟩ := id hR
      have hN2 := hN.pos hpp
      have ec : nI (tx p) = 110 := by rw [h110]; rfl
      refine Or.inl ⟨(c_X3_readItem110 hT hp4 hpl h110 hN.1 hN.2.2.1).mono ?_, ?_⟩
      · rintro r u (w | w)
        · exact absurd w.2.1.2.1 (by omega)
        · exact ⟨w.1, w.2.2⟩
      · rw [ec]
        refine c_X7_readsItemN.mono ?_
        rintro r u ⟨rfl, rfl⟩
        exact ⟨FM.rf, Or.inl rfl⟩
    by_cases h104 : tx p = 104
    · exact item_h hT hM hp4 hpl hR hpp h104
    by_cases h108 : tx p = 108
    · exact item_l hT hM hp4 hpl hR hpp h108
    by_cases h116 : tx p = 116
    · exact item_t hT hM hp4 hpl hR hpp h116
    by_cases h119 : tx p = 119
    · exact item_w hT hM hp4 hpl hR hpp h119
    by_cases h122 : tx p = 122
    · exact item_z hT hM hp4 hpl hR hpp h122
    obtain ⟨N, hm, sz, hN, -⟩ := id hR
    refine Or.inl ⟨c_X3_readItem0 (N := N) hT hp4 hpl ⟨h104, h108, h110, h116, h119, h122⟩, (c_X7_readsItem0 (by omega) ⟨h104, h108, h110, h116, h119, h122⟩).mono ?_⟩
    rintro r u ⟨rfl, rfl⟩
    exact ⟨FM.rf, Or.inl rfl⟩
set_option maxHeartbeats 4000000 in
set_option maxRecDepth 100000 in
theorem l_ff_end {μ : Mem} {tx : Nat → Nat} {l p it : Nat} {L : Int32} {w3 : Option Value} (hT : RT μ tx l) (hp4 : μ 104 4 = nI p) (hit : it ≤ p) (hpl : p ≤ l) (he : p = l) : AW shC mX3_firstFault 25 [some (.ref 104), some (.int L), some (.int (nI it)), w3] [] μ (fun r u => r = -4 ∧ μ = u) := by
  have z1 : shC[1]? = some (101, 200, []) := rfl
  have r0 : shC[104]? = some (3, 5, [some 1, some 53, some 105, none, none]) := rfl
  have r1 : shC[105]? = some (100, 3, []) := rfl
  have hn := net_53
  obtain ⟨hn0, hn1, hn2, hnS⟩ := id hn
  obtain ⟨hE, hTx, hTX⟩ := id hT
  have hl200 := hTX.1
  refine a_iload_n (pc := 25) dX3_firstFault_25 rfl rfl ?_
  refine a_sipush (pc := 26) (v := 200) dX3_firstFault_26 (by decide) ?_
  refine a_icmp_ge (pc := 29) (tgt := 63) dX3_firstFault_29 (by decide) (fun c_29 => ?_) (fun c_29 => ?_)
  · refine a_bipush (pc := 63) (v := -4) dX3_firstFault_63 (by decide) ?_
    refine a_iret (pc := 65) rfl dX3_firstFault_65 ?_
    exact ⟨rfl, rfl⟩
  · refine a_aload_n (pc := 32) dX3_firstFault_32 rfl rfl ?_
    refine a_geti (pc := 33) fl_X3_38 (by assumption) (by decide) (by rfl) dX3_firstFault_33 ?_
    refine a_top (y := nI p) hp4 ?_
    refine a_aload_n (pc := 36) dX3_firstFault_36 rfl rfl ?_
    refine a_geti (pc := 37) fl_X3_34 (by assumption) (by decide) (by rfl) dX3_firstFault_37 ?_
    refine a_top (y := nI l) hE ?_
    refine a_icmp_ge (pc := 40) (tgt := 63) dX3_firstFault_40 (by decide) (fun c_40 => ?_) (fun c_40 => ?_)
    · have n_40 : l ≤ p := (nI_leI (a := l) (b := p) (by omega) (by omega)).mp c_40
      refine a_bipush (pc := 63) (v := -4) dX3_firstFault_63 (by decide) ?_
      refine a_iret (pc := 65) rfl dX3_firstFault_65 ?_
      exact ⟨rfl, rfl⟩
    · have n_40 : p < l := (nI_ltI (a := p) (b := l) (by omega) (by omega)).mp (Int32.not_le.mp c_40)
      omega

set_option maxHeartbeats 4000000 in
set_option maxRecDepth 100000 in
theorem l_ff_fail {μ : Mem} {tx : Nat → Nat} {l p it : Nat} {L : Int32} {w3 : Option Value} (hT : RT μ tx l) (hp4 : μ 104 4 = nI p) (hit : it ≤ p) (hpl : p ≤ l) (he : p < l) {U : Mem → Prop} (hC : Con shC mX3_readItem [.ref 104] μ (fun r u => r = 0 ∧ U u)) : AW shC mX3_firstFault 25 [some (.ref 104), some (.int L), some (.int (nI it)), w3] [] μ (fun r u => r = nI p ∧ U u) := by
  have z1 : shC[1]? = some (101, 200, []) := rfl
  have r0 : shC[104]? = some (3, 5, [some 1, some 53, some 105, none, none]) := rfl
  have r1 : shC[105]? = some (100, 3, []) := rfl
  have hn := net_53
  obtain ⟨hn0, hn1, hn2, hnS⟩ := id hn
  obtain ⟨hE, hTx, hTX⟩ := id hT
  have hl200 := hTX.1
  refine a_iload_n (pc := 25) dX3_firstFault_25 rfl rfl ?_
  refine a_sipush (pc := 26) (v := 200) dX3_firstFault_26 (by decide) ?_
  refine a_icmp_ge (pc := 29) (tgt := 63) dX3_firstFault_29 (by decide) (fun c_29 => ?_) (fun c_29 => ?_)
  · have n_29 : 200 ≤ it := (nI_leI (a := 200) (b := it) (by omega) (by omega)).mp c_29
    exact absurd n_29 (by omega)
  · have n_29 : it < 200 := (nI_ltI (a := it) (b := 200) (by omega) (by omega)).mp (Int32.not_le.mp c_29)
    refine a_aload_n (pc := 32) dX3_firstFault_32 rfl rfl ?_
    refine a_geti (pc := 33) fl_X3_38 (by assumption) (by decide) (by rfl) dX3_firstFault_33 ?_
    refine a_top (y := nI p) hp4 ?_
    refine a_aload_n (pc := 36) dX3_firstFault_36 rfl rfl ?_
    refine a_geti (pc := 37) fl_X3_34 (by assumption) (by decide) (by rfl) dX3_firstFault_37 ?_
    refine a_top (y := nI l) hE ?_
    refine a_icmp_ge (pc := 40) (tgt := 63) dX3_firstFault_40 (by decide) (fun c_40 => ?_) (fun c_40 => ?_)
    · have n_40 : l ≤ p := (nI_leI (a := l) (b := p) (by omega) (by omega)).mp c_40
      exact absurd n_40 (by omega)
    · have n_40 : p < l := (nI_ltI (a := p) (b := l) (by omega) (by omega)).mp (Int32.not_le.mp c_40)
      refine a_aload_n (pc := 43) dX3_firstFault_43 rfl rfl ?_
      refine a_geti (pc := 44) fl_X3_38 (by assumption) (by decide) (by rfl) dX3_firstFault_44 ?_
      refine a_top (y := nI p) hp4 ?_
      refine a_istore_n (pc := 47) (al' := [some (.ref _), some (.int _), some (.int _), some (.int _)]) dX3_firstFault_47 rfl (by decide) rfl rfl ?_
      refine a_aload_n (pc := 48) dX3_firstFault_48 rfl rfl ?_
      refine a_callI0 (pc := 49) ck_X3_41 ⟨(Nat.le_of_ble_eq_true rfl), (Nat.le_of_ble_eq_true rfl)⟩ (by assumption) (by decide) (Nat.le_of_ble_eq_true rfl) dX3_firstFault_49 rfl hC ?_
      rintro r u ⟨rfl, hu⟩
      refine a_if_ne (pc := 52) (tgt := 57) dX3_firstFault_52 (by decide) (fun c_52 => ?_) (fun c_52 => ?_)
      · exact absurd c_52 (by decide)
      · refine a_iload_n (pc := 55) dX3_firstFault_55 rfl rfl ?_
        refine a_iret (pc := 56) rfl dX3_firstFault_56 ?_
        exact ⟨rfl, hu⟩

set_option maxHeartbeats 4000000 in
set_option maxRecDepth 100000 in
theorem l_ff_go {μ : Mem} {tx : Nat → Nat} {l p it : Nat} {L : Int32} {w3 : Option Value} (hT : RT μ tx l) (hp4 : μ 104 4 = nI p) (hit : it ≤ p) (hpl : p ≤ l) (he : p < l) {μ' : Mem} (hC : Con shC mX3_readItem [.ref 104] μ (fun r u => r = 1 ∧ u = μ')) {Q : Int32 → Mem → Prop} (hQ : AW shC mX3_firstFault 25 [some (.ref 104), some (.int L), some (.int (nI (it + 1))), some (.int (nI p))] [] μ' Q) : AW shC mX3_firstFault 25 [some (.ref 104), some (.int L), some (.int (nI it)), w3] [] μ Q := by
  have z1 : shC[1]? = some (101, 200, []) := rfl
  have r0 : shC[104]? = some (3, 5, [some 1, some 53, some 105, none, none]) := rfl
  have r1 : shC[105]? = some (100, 3, []) := rfl
  have hn := net_53
  obtain ⟨hn0, hn1, hn2, hnS⟩ := id hn
  obtain ⟨hE, hTx, hTX⟩ := id hT
  have hl200 := hTX.1
  refine a_iload_n (pc := 25) dX3_firstFault_25 rfl rfl ?_
  refine a_sipush (pc := 26) (v := 200) dX3_firstFault_26 (by decide) ?_
  refine a_icmp_ge (pc := 29) (tgt := 63) dX3_firstFault_29 (by decide) (fun c_29 => ?_) (fun c_29 => ?_)
  · have n_29 : 200 ≤ it := (nI_leI (a := 200) (b := it) (by omega) (by omega)).mp c_29
    exact absurd n_29 (by omega)
  · have n_29 : it < 200 := (nI_ltI (a := it) (b := 200) (by omega) (by omega)).mp (Int32.not_le.mp c_29)
    refine a_aload_n (pc := 32) dX3_firstFault_32 rfl rfl ?_
    refine a_geti (pc := 33) fl_X3_38 (by assumption) (by decide) (by rfl) dX3_firstFault_33 ?_
    refine a_top (y := nI p) hp4 ?_
    refine a_aload_n (pc := 36) dX3_firstFault_36 rfl rfl ?_
    refine a_geti (pc := 37) fl_X3_34 (by assumption) (by decide) (by rfl) dX3_firstFault_37 ?_
    refine a_top (y := nI l) hE ?_
    refine a_icmp_ge (pc := 40) (tgt := 63) dX3_firstFault_40 (by decide) (fun c_40 => ?_) (fun c_40 => ?_)
    · have n_40 : l ≤ p := (nI_leI (a := l) (b := p) (by omega) (by omega)).mp c_40
      exact absurd n_40 (by omega)
    · have n_40 : p < l := (nI_ltI (a := p) (b := l) (by omega) (by omega)).mp (Int32.not_le.mp c_40)
      refine a_aload_n (pc := 43) dX3_firstFault_43 rfl rfl ?_
      refine a_geti (pc := 44) fl_X3_38 (by assumption) (by decide) (by rfl) dX3_firstFault_44 ?_
      refine a_top (y := nI p) hp4 ?_
      refine a_istore_n (pc := 47) (al' := [some (.ref _), some (.int _), some (.int _), some (.int _)]) dX3_firstFault_47 rfl (by decide) rfl rfl ?_
      refine a_aload_n (pc := 48) dX3_firstFault_48 rfl rfl ?_
      refine a_callI0 (pc := 49) ck_X3_41 ⟨(Nat.le_of_ble_eq_true rfl), (Nat.le_of_ble_eq_true rfl)⟩ (by assumption) (by decide) (Nat.le_of_ble_eq_true rfl) dX3_firstFault_49 rfl hC ?_
      rintro r u ⟨rfl, rfl⟩
      refine a_if_ne (pc := 52) (tgt := 57) dX3_firstFault_52 (by decide) (fun c_52 => ?_) (fun c_52 => ?_)
      · refine a_iincN (pc := 57) (m := 1) (al' := [some (.ref _), some (.int _), some (.int _), some (.int _)]) dX3_firstFault_57 rfl (by decide) rfl rfl ?_
        refine a_goto (pc := 60) (tgt := 25) dX3_firstFault_60 (by decide) ?_
        exact hQ
      · exact absurd c_52 (by decide)

set_option maxHeartbeats 4000000 in
set_option maxRecDepth 100000 in
theorem l_rd_end {ν : Mem} {tx : Nat → Nat} {l p : Nat} (hT : MT ν tx l) (hpl : p ≤ l) (he : p = l) : AW shM mX7_reads 6 [some (.ref 0), some (.int (nI p))] [] ν (fun r u => r = -4 ∧ ν = u) := by
  have m0 : shM[0]? = some (7, 18, [none, some 1, none, none, none, none, none, some 2, some 3, none, none, some 4, none, none, some 5, some 6, some 7, some 8]) := rfl
  have m1 : shM[1]? = some (100, 200, []) := rfl
  have m2 : shM[2]? = some (100, 1320, []) := rfl
  have m3 : shM[3]? = some (100, 1760, []) := rfl
  have m4 : shM[4]? = some (100, 4, []) := rfl
  have m5 : shM[5]? = some (100, 6, []) := rfl
  have m6 : shM[6]? = some (100, 6, []) := rfl
  have m7 : shM[7]? = some (100, 6, []) := rfl
  have m8 : shM[8]? = some (100, 6, []) := rfl
  obtain ⟨hE, hTx, hTX⟩ := id hT
  have hl200 := hTX.1
  refine a_iload_n (pc := 6) dX7_reads_6 rfl rfl ?_
  refine a_aload_n (pc := 7) dX7_reads_7 rfl rfl ?_
  refine a_geti (pc := 8) fl_X7_81 (by assumption) (by decide) (by rfl) dX7_reads_8 ?_
  refine a_top (y := nI l) hE ?_
  refine a_icmp_ge (pc := 11) (tgt := 64) dX7_reads_11 (by decide) (fun c_11 => ?_) (fun c_11 => ?_)
  · have n_11 : l ≤ p := (nI_leI (a := l) (b := p) (by omega) (by omega)).mp c_11
    refine a_bipush (pc := 64) (v := -4) dX7_reads_64 (by decide) ?_
    refine a_iret (pc := 66) rfl dX7_reads_66 ?_
    exact ⟨rfl, rfl⟩
  · have n_11 : p < l := (nI_ltI (a := p) (b := l) (by omega) (by omega)).mp (Int32.not_le.mp c_11)
    omega

set_option maxHeartbeats 4000000 in
set_option maxRecDepth 100000 in
theorem l_rd_fail {ν : Mem} {tx : Nat → Nat} {l p : Nat} (hT : MT ν tx l) (hpl : p ≤ l) (he : p < l) (hC : Con shM mX7_readsItem [.ref 0, .int (nI (tx p)), .int (nI (p + 1)), .int (if p = 0 then 1 else 0)] ν (fun s v => FM ν v ∧ (s = 0 ∨ ∃ e, e ≤ l ∧ v 0 13 = nI e ∧ lat tx l e ≠ 59))) : AW shM mX7_reads 6 [some (.ref 0), some (.int (nI p))] [] ν (fun r u => r = nI p ∧ FM ν u) := by
  have m0 : shM[0]? = some (7, 18, [none, some 1, none, none, none, none, none, some 2, some 3, none, none, some 4, none, none, some 5, some 6, some 7, some 8]) := rfl
  have m1 : shM[1]? = some (100, 200, []) := rfl
  have m2 : shM[2]? = some (100, 1320, []) := rfl
  have m3 : shM[3]? = some (100, 1760, []) := rfl
  have m4 : shM[4]? = some (100, 4, []) := rfl
  have m5 : shM[5]? = some (100, 6, []) := rfl
  have m6 : shM[6]? = some (100, 6, []) := rfl
  have m7 : shM[7]? = some (100, 6, []) := rfl
  have m8 : shM[8]? = some (100, 6, []) := rfl
  obtain ⟨hE, hTx, hTX⟩ := id hT
  have hl200 := hTX.1
  refine a_iload_n (pc := 6) dX7_reads_6 rfl rfl ?_
  refine a_aload_n (pc := 7) dX7_reads_7 rfl rfl ?_
  refine a_geti (pc := 8) fl_X7_81 (by assumption) (by decide) (by rfl) dX7_reads_8 ?_
  refine a_top (y := nI l) hE ?_
  refine a_icmp_ge (pc := 11) (tgt := 64) dX7_reads_11 (by decide) (fun c_11 => ?_) (fun c_11 => ?_)
  · have n_11 : l ≤ p := (nI_leI (a := l) (b := p) (by omega) (by omega)).mp c_11
    omega
  · have n_11 : p < l := (nI_ltI (a := p) (b := l) (by omega) (by omega)).mp (Int32.not_le.mp c_11)
    refine a_aload_n (pc := 14) dX7_reads_14 rfl rfl ?_
    refine a_aload_n (pc := 15) dX7_reads_15 rfl rfl ?_
    refine a_getr (pc := 16) fl_X7_7 (by assumption) (by decide) (by rfl) dX7_reads_16 ?_
    refine a_iload_n (pc := 19) dX7_reads_19 rfl rfl ?_
    refine a_iald (pc := 20) (j := p) (by assumption) rfl (by omega) (by decide) dX7_reads_20 ?_
    refine a_top (y := nI (tx p)) (hTx p (by omega)) ?_
    refine a_iload_n (pc := 21) dX7_reads_21 rfl rfl ?_
    refine a_iconst (pc := 22) (v := 1) dX7_reads_22 (by decide) ?_
    refine a_iaddN (pc := 23) (a := _) (b := 1) rfl rfl dX7_reads_23 ?_
    refine a_iload_n (pc := 24) dX7_reads_24 rfl rfl ?_
    refine a_if_ne (pc := 25) (tgt := 32) dX7_reads_25 (by decide) (fun c_25 => ?_) (fun c_25 => ?_)
    · have n_25 : ¬ p = 0 := fun e_ => c_25 ((nI_eq (a := p) (b := 0) (by omega) (by omega)).mpr e_)
      refine a_iconst (pc := 32) (v := 0) dX7_reads_32 (by decide) ?_
      refine a_callI3 (pc := 33) ck_X7_118 ⟨(Nat.le_of_ble_eq_true rfl), (Nat.le_of_ble_eq_true rfl)⟩ (by assumption) (by decide) (Nat.le_of_ble_eq_true rfl) dX7_reads_33 rfl (by first | (rw [if_pos n_25] at hC; exact hC) | (rw [if_neg n_25] at hC; exact hC)) ?_
      rintro r_ v ⟨hF, hr⟩
      refine a_if_eq (pc := 36) (tgt := 52) dX7_reads_36 (by decide) (fun c_36 => ?_) (fun c_36 => ?_)
      · refine a_iload_n (pc := 52) dX7_reads_52 rfl rfl ?_
        refine a_iret (pc := 53) rfl dX7_reads_53 ?_
        exact ⟨rfl, hF⟩
      · obtain ⟨e, e1, e2, e3⟩ := hr.resolve_left c_36
        refine a_aload_n (pc := 39) dX7_reads_39 rfl rfl ?_
        refine a_aload_n (pc := 40) dX7_reads_40 rfl rfl ?_
        refine a_geti (pc := 41) fl_X7_87 (by assumption) (by decide) (by rfl) dX7_reads_41 ?_
        refine a_top (y := nI e) e2 ?_
        refine a_callI1 (pc := 44) ck_X7_90 ⟨(Nat.le_of_ble_eq_true rfl), (Nat.le_of_ble_eq_true rfl)⟩ (by assumption) (by decide) (Nat.le_of_ble_eq_true rfl) dX7_reads_44 rfl (c_X7_letterAt (hT.fm hF) (by omega)) ?_
        rintro r2 u ⟨rfl, rfl⟩
        have hle := lat_lt (p := e) hTX
        refine a_bipush (pc := 47) (v := 59) dX7_reads_47 (by decide) ?_
        refine a_icmp_eq (pc := 49) (tgt := 54) dX7_reads_49 (by decide) (fun c_49 => ?_) (fun c_49 => ?_)
        · have n_49 : (lat tx l e) = 59 := (nI_eq (a := (lat tx l e)) (b := 59) (by omega) (by omega)).mp c_49
          exact absurd n_49 e3
        · have n_49 : ¬ (lat tx l e) = 59 := fun e_ => c_49 ((nI_eq (a := (lat tx l e)) (b := 59) (by omega) (by omega)).mpr e_)
          refine a_iload_n (pc := 52) dX7_reads_52 rfl rfl ?_
          refine a_iret (pc := 53) rfl dX7_reads_53 ?_
          exact ⟨rfl, hF⟩
    · have n_25 : p = 0 := (nI_eq (a := p) (b := 0) (by omega) (by omega)).mp c_25
      refine a_iconst (pc := 28) (v := 1) dX7_reads_28 (by decide) ?_
      refine a_goto (pc := 29) (tgt := 33) dX7_reads_29 (by decide) ?_
      refine a_callI3 (pc := 33) ck_X7_118 ⟨(Nat.le_of_ble_eq_true rfl), (Nat.le_of_ble_eq_true rfl)⟩ (by assumption) (by decide) (Nat.le_of_ble_eq_true rfl) dX7_reads_33 rfl (by first | (rw [if_pos n_25] at hC; exact hC) | (rw [if_neg n_25] at hC; exact hC)) ?_
      rintro r_ v ⟨hF, hr⟩
      refine a_if_eq (pc := 36) (tgt := 52) dX7_reads_36 (by decide) (fun c_36 => ?_) (fun c_36 => ?_)
      · refine a_iload_n (pc := 52) dX7_reads_52 rfl rfl ?_
        refine a_iret (pc := 53) rfl dX7_reads_53 ?_
        exact ⟨rfl, hF⟩
      · obtain ⟨e, e1, e2, e3⟩ := hr.resolve_left c_36
        refine a_aload_n (pc := 39) dX7_reads_39 rfl rfl ?_
        refine a_aload_n (pc := 40) dX7_reads_40 rfl rfl ?_
        refine a_geti (pc := 41) fl_X7_87 (by assumption) (by decide) (by rfl) dX7_reads_41 ?_
        refine a_top (y := nI e) e2 ?_
        refine a_callI1 (pc := 44) ck_X7_90 ⟨(Nat.le_of_ble_eq_true rfl), (Nat.le_of_ble_eq_true rfl)⟩ (by assumption) (by decide) (Nat.le_of_ble_eq_true rfl) dX7_reads_44 rfl (c_X7_letterAt (hT.fm hF) (by omega)) ?_
        rintro r2 u ⟨rfl, rfl⟩
        have hle := lat_lt (p := e) hTX
        refine a_bipush (pc := 47) (v := 59) dX7_reads_47 (by decide) ?_
        refine a_icmp_eq (pc := 49) (tgt := 54) dX7_reads_49 (by decide) (fun c_49 => ?_) (fun c_49 => ?_)
        · have n_49 : (lat tx l e) = 59 := (nI_eq (a := (lat tx l e)) (b := 59) (by omega) (by omega)).mp c_49
          exact absurd n_49 e3
        · have n_49 : ¬ (lat tx l e) = 59 := fun e_ => c_49 ((nI_eq (a := (lat tx l e)) (b := 59) (by omega) (by omega)).mpr e_)
          refine a_iload_n (pc := 52) dX7_reads_52 rfl rfl ?_
          refine a_iret (pc := 53) rfl dX7_reads_53 ?_
          exact ⟨rfl, hF⟩

set_option maxHeartbeats 4000000 in
set_option maxRecDepth 100000 in
theorem l_rd_go {ν : Mem} {tx : Nat → Nat} {l p : Nat} (hT : MT ν tx l) (hpl : p ≤ l) (he : p < l) {ν' : Mem} {e : Nat} (hel : e ≤ l) (h13 : ν' 0 13 = nI e) (h59 : lat tx l e = 59) (hT2 : MT ν' tx l) (hC : Con shM mX7_readsItem [.ref 0, .int (nI (tx p)), .int (nI (p + 1)), .int (if p = 0 then 1 else 0)] ν (fun s v => s = 1 ∧ v = ν')) {Q : Int32 → Mem → Prop} (hQ : AW shM mX7_reads 6 [some (.ref 0), some (.int (nI (e + 1)))] [] ν' Q) : AW shM mX7_reads 6 [some (.ref 0), some (.int (nI p))] [] ν Q := by
  have m0 : shM[0]? = some (7, 18, [none, some 1, none, none, none, none, none, some 2, some 3, none, none, some 4, none, none, some 5, some 6, some 7, some 8]) := rfl
  have m1 : shM[1]? = some (100, 200, []) := rfl
  have m2 : shM[2]? = some (100, 1320, []) := rfl
  have m3 : shM[3]? = some (100, 1760, []) := rfl
  have m4 : shM[4]? = some (100, 4, []) := rfl
  have m5 : shM[5]? = some (100, 6, []) := rfl
  have m6 : shM[6]? = some (100, 6, []) := rfl
  have m7 : shM[7]? = some (100, 6, []) := rfl
  have m8 : shM[8]? = some (100, 6, []) := rfl
  obtain ⟨hE, hTx, hTX⟩ := id hT
  have hl200 := hTX.1
  refine a_iload_n (pc := 6) dX7_reads_6 rfl rfl ?_
  refine a_aload_n (pc := 7) dX7_reads_7 rfl rfl ?_
  refine a_geti (pc := 8) fl_X7_81 (by assumption) (by decide) (by rfl) dX7_reads_8 ?_
  refine a_top (y := nI l) hE ?_
  refine a_icmp_ge (pc := 11) (tgt := 64) dX7_reads_11 (by decide) (fun c_11 => ?_) (fun c_11 => ?_)
  · have n_11 : l ≤ p := (nI_leI (a := l) (b := p) (by omega) (by omega)).mp c_11
    omega
  · have n_11 : p < l := (nI_ltI (a := p) (b := l) (by omega) (by omega)).mp (Int32.not_le.mp c_11)
    refine a_aload_n (pc := 14) dX7_reads_14 rfl rfl ?_
    refine a_aload_n (pc := 15) dX7_reads_15 rfl rfl ?_
    refine a_getr (pc := 16) fl_X7_7 (by assumption) (by decide) (by rfl) dX7_reads_16 ?_
    refine a_iload_n (pc := 19) dX7_reads_19 rfl rfl ?_
    refine a_iald (pc := 20) (j := p) (by assumption) rfl (by omega) (by decide) dX7_reads_20 ?_
    refine a_top (y := nI (tx p)) (hTx p (by omega)) ?_
    refine a_iload_n (pc := 21) dX7_reads_21 rfl rfl ?_
    refine a_iconst (pc := 22) (v := 1) dX7_reads_22 (by decide) ?_
    refine a_iaddN (pc := 23) (a := _) (b := 1) rfl rfl dX7_reads_23 ?_
    refine a_iload_n (pc := 24) dX7_reads_24 rfl rfl ?_
    refine a_if_ne (pc := 25) (tgt := 32) dX7_reads_25 (by decide) (fun c_25 => ?_) (fun c_25 => ?_)
    · have n_25 : ¬ p = 0 := fun e_ => c_25 ((nI_eq (a := p) (b := 0) (by omega) (by omega)).mpr e_)
      refine a_iconst (pc := 32) (v := 0) dX7_reads_32 (by decide) ?_
      refine a_callI3 (pc := 33) ck_X7_118 ⟨(Nat.le_of_ble_eq_true rfl), (Nat.le_of_ble_eq_true rfl)⟩ (by assumption) (by decide) (Nat.le_of_ble_eq_true rfl) dX7_reads_33 rfl (by first | (rw [if_pos n_25] at hC; exact hC) | (rw [if_neg n_25] at hC; exact hC)) ?_
      rintro r_ v ⟨rfl, rfl⟩
      refine a_if_eq (pc := 36) (tgt := 52) dX7_reads_36 (by decide) (fun c_36 => ?_) (fun c_36 => ?_)
      · exact absurd c_36 (by decide)
      · refine a_aload_n (pc := 39) dX7_reads_39 rfl rfl ?_
        refine a_aload_n (pc := 40) dX7_reads_40 rfl rfl ?_
        refine a_geti (pc := 41) fl_X7_87 (by assumption) (by decide) (by rfl) dX7_reads_41 ?_
        refine a_top (y := nI e) h13 ?_
        refine a_callI1 (pc := 44) ck_X7_90 ⟨(Nat.le_of_ble_eq_true rfl), (Nat.le_of_ble_eq_true rfl)⟩ (by assumption) (by decide) (Nat.le_of_ble_eq_true rfl) dX7_reads_44 rfl (c_X7_letterAt hT2 (by omega)) ?_
        rintro r2 u ⟨rfl, rfl⟩
        have hle := lat_lt (p := e) hTX
        refine a_bipush (pc := 47) (v := 59) dX7_reads_47 (by decide) ?_
        refine a_icmp_eq (pc := 49) (tgt := 54) dX7_reads_49 (by decide) (fun c_49 => ?_) (fun c_49 => ?_)
        · have n_49 : (lat tx l e) = 59 := (nI_eq (a := (lat tx l e)) (b := 59) (by omega) (by omega)).mp c_49
          refine a_aload_n (pc := 54) dX7_reads_54 rfl rfl ?_
          refine a_geti (pc := 55) fl_X7_87 (by assumption) (by decide) (by rfl) dX7_reads_55 ?_
          refine a_top (y := nI e) h13 ?_
          refine a_iconst (pc := 58) (v := 1) dX7_reads_58 (by decide) ?_
          refine a_iaddN (pc := 59) (a := _) (b := 1) rfl rfl dX7_reads_59 ?_
          refine a_istore_n (pc := 60) (al' := [some (.ref _), some (.int _)]) dX7_reads_60 rfl (by decide) rfl rfl ?_
          refine a_goto (pc := 61) (tgt := 6) dX7_reads_61 (by decide) ?_
          exact hQ
        · have n_49 : ¬ (lat tx l e) = 59 := fun e_ => c_49 ((nI_eq (a := (lat tx l e)) (b := 59) (by omega) (by omega)).mpr e_)
          exact absurd h59 n_49
    · have n_25 : p = 0 := (nI_eq (a := p) (b := 0) (by omega) (by omega)).mp c_25
      refine a_iconst (pc := 28) (v := 1) dX7_reads_28 (by decide) ?_
      refine a_goto (pc := 29) (tgt := 33) dX7_reads_29 (by decide) ?_
      refine a_callI3 (pc := 33) ck_X7_118 ⟨(Nat.le_of_ble_eq_true rfl), (Nat.le_of_ble_eq_true rfl)⟩ (by assumption) (by decide) (Nat.le_of_ble_eq_true rfl) dX7_reads_33 rfl (by first | (rw [if_pos n_25] at hC; exact hC) | (rw [if_neg n_25] at hC; exact hC)) ?_
      rintro r_ v ⟨rfl, rfl⟩
      refine a_if_eq (pc := 36) (tgt := 52) dX7_reads_36 (by decide) (fun c_36 => ?_) (fun c_36 => ?_)
      · exact absurd c_36 (by decide)
      · refine a_aload_n (pc := 39) dX7_reads_39 rfl rfl ?_
        refine a_aload_n (pc := 40) dX7_reads_40 rfl rfl ?_
        refine a_geti (pc := 41) fl_X7_87 (by assumption) (by decide) (by rfl) dX7_reads_41 ?_
        refine a_top (y := nI e) h13 ?_
        refine a_callI1 (pc := 44) ck_X7_90 ⟨(Nat.le_of_ble_eq_true rfl), (Nat.le_of_ble_eq_true rfl)⟩ (by assumption) (by decide) (Nat.le_of_ble_eq_true rfl) dX7_reads_44 rfl (c_X7_letterAt hT2 (by omega)) ?_
        rintro r2 u ⟨rfl, rfl⟩
        have hle := lat_lt (p := e) hTX
        refine a_bipush (pc := 47) (v := 59) dX7_reads_47 (by decide) ?_
        refine a_icmp_eq (pc := 49) (tgt := 54) dX7_reads_49 (by decide) (fun c_49 => ?_) (fun c_49 => ?_)
        · have n_49 : (lat tx l e) = 59 := (nI_eq (a := (lat tx l e)) (b := 59) (by omega) (by omega)).mp c_49
          refine a_aload_n (pc := 54) dX7_reads_54 rfl rfl ?_
          refine a_geti (pc := 55) fl_X7_87 (by assumption) (by decide) (by rfl) dX7_reads_55 ?_
          refine a_top (y := nI e) h13 ?_
          refine a_iconst (pc := 58) (v := 1) dX7_reads_58 (by decide) ?_
          refine a_iaddN (pc := 59) (a := _) (b := 1) rfl rfl dX7_reads_59 ?_
          refine a_istore_n (pc := 60) (al' := [some (.ref _), some (.int _)]) dX7_reads_60 rfl (by decide) rfl rfl ?_
          refine a_goto (pc := 61) (tgt := 6) dX7_reads_61 (by decide) ?_
          exact hQ
        · have n_49 : ¬ (lat tx l e) = 59 := fun e_ => c_49 ((nI_eq (a := (lat tx l e)) (b := 59) (by omega) (by omega)).mpr e_)
          exact absurd h59 n_49

theorem RDr.bl {μ ν : Mem} {p : Nat} (h : RDr μ ν p) : BLn μ 53 := by
  obtain ⟨N, hm, sz, -, -, -, -, -, hS⟩ := h
  exact fun i hi => Or.inl ((hS i hi).1 10 (by omega) (by omega))
theorem BLn.rd {μ : Mem} {p : Nat} {g : Nat → Int32} (h : BLn μ 53) : BLn (rdM μ p g) 53 := fun i hi => by
  have := h i hi
  rw [rd_x (by unfold stA; omega) (by unfold stA; omega)]; exact this
theorem nI_m4 : ∀ p, p < 200 → ¬ nI p = -4 := by decide +kernel
/-- the rest of a text, read by both -/
theorem read_rel {tx : Nat → Nat} {l : Nat} : ∀ n p it : Nat, ∀ μ ν : Mem, ∀ (L : Int32) (w3 : Option Value), l < p + n → RT μ tx l → MT ν tx l → μ 104 4 = nI p → it ≤ p → p ≤ l → RDr μ ν p →
    ∃ (a : Int32) (U V : Mem → Prop), AW shC mX3_firstFault 25 [some (.ref 104), some (.int L), some (.int (nI it)), w3] [] μ (fun r u => r = a ∧ U u) ∧ AW shM mX7_reads 6 [some (.ref 0), some (.int (nI p))] [] ν (fun r v => r = a ∧ V v) ∧ (∀ u, U u → FC μ u ∧ BLn u 53) ∧ (∀ v, V v → FM ν v) ∧ (a = -4 → ∃ u v, U = (u = ·) ∧ V = (v = ·) ∧ RDr u v l) := by
  intro n
  induction n with
  | zero => intro p it μ ν L w3 hn hT hM hp4 hit hpl; omega
  | succ n ih =>
    intro p it μ ν L w3 hn hT hM hp4 hit hpl hR
    rcases Nat.lt_or_ge p l with hlt | hge
    · rcases item_rel hT hM hp4 hlt hR with ⟨hC, hV⟩ | ⟨μ', ν', e, hC, hV, h1, h2, h3, h4, h5, h6, h7, h8, h9⟩
      · refine ⟨nI p, _, _, l_ff_fail hT hp4 hit hpl hlt hC, l_rd_fail hM hpl hlt hV, ?_, fun v hv => hv, fun q => absurd q (nI_m4 p (by have := hT.2.2.1; omega))⟩
        rintro u ⟨p2, g2, rfl⟩
        exact ⟨FC.rd, hR.bl.rd⟩
      · have hel : e < l := ((lat_is (by omega)).mp h3).1
        obtain ⟨a, U, V, q1, q2, q3, q4, q5⟩ := ih (e + 1) (it + 1) μ' ν' L (some (.int (nI p))) (by omega) h6 (hM.fm h8) h5 (by omega) (by omega) h9
        exact ⟨a, U, V, l_ff_go hT hp4 hit hpl hlt hC q1, l_rd_go hM hpl hlt h2 h4 h3 (hM.fm h8) hV q2, fun u hu => ⟨h7.tr (q3 u hu).1, (q3 u hu).2⟩, fun v hv => h8.tr (q4 v hv), q5⟩
    · obtain rfl : p = l := by omega
      refine ⟨-4, (μ = ·), (ν = ·), l_ff_end hT hp4 hit hpl rfl, l_rd_end hM hpl rfl, ?_, ?_, ?_⟩
      · rintro u rfl; exact ⟨fun _ _ => rfl, hR.bl⟩
      · rintro v rfl; exact FM.rf
      · exact fun _ => ⟨μ, ν, rfl, rfl, hR⟩
theorem read_start {μ ν u : Mem} {p l : Nat} {g : Nat → Int32} (hC : NCL u 53) : RDr (rdM u p g) (clrF ν) 0 := by
  obtain ⟨h0, h1, h2, h3, h4, h5, h6, h7, hk, hS⟩ := hC
  have hx : ∀ x, x ≠ 104 → x ≠ 105 → rdM u p g x = u x := fun x a b => rd_x a b
  have f4 : clrF ν 4 = upd (upd (upd (upd (ν 4) 0 4) 1 32) 2 3) 3 5 := by unfold clrF; rw [upA_ne (by omega), upA_at]
  have f2 : ∀ j, 880 ≤ j → j < 1320 → clrF ν 2 j = 0 := fun j a b => by unfold clrF; rw [upA_at, if_pos (by omega)]
  have f0 : clrF ν 0 10 = 0 := by unfold clrF; rw [upA_ne (by omega), upA_ne (by omega), up2_at]
  have hst : ∀ i d, d ≤ 6 → rdM u p g (stA 53 i + d) = u (stA 53 i + d) ∨ 6 ≤ i := fun i d hd => by
    by_cases hi : i < 6
    · exact Or.inl (hx _ (by unfold stA; omega) (by unfold stA; omega))
    · exact Or.inr (by omega)
  have g53 := hx 53 (by omega) (by omega)
  refine ⟨0, fun _ => 0, fun _ => 0, ⟨by rw [g53]; exact h0, f0, by omega, Or.inl ⟨rfl, rfl⟩⟩, ⟨⟨4, by rw [g53]; exact h1, by rw [f4]; rfl, by omega, by omega⟩, ⟨32, by rw [g53]; exact h2, by rw [f4]; rfl, by omega, by omega⟩, by rw [g53, h3, f4]; rfl, ⟨5, by rw [g53]; exact h4, by rw [f4]; rfl, by omega⟩⟩, ⟨0, by rw [g53]; exact h5, f2 _ (by omega) (by omega), by omega⟩, ⟨by rw [g53]; exact h6, f2 _ (by omega) (by omega), by rw [g53]; exact h7, f2 _ (by omega) (by omega), fun k hk' => by rw [hx 54 (by omega) (by omega)]; exact hk k hk', fun k _ _ => f2 _ (by omega) (by omega)⟩, ⟨fun i hi => ⟨by show 0 < 64; omega, ?_, f2 _ (by omega) (by omega)⟩, fun i j _ _ => by show (0).testBit j = (0).testBit i; rw [Nat.zero_testBit, Nat.zero_testBit], fun i _ => Nat.zero_testBit i⟩, fun i hi => ?_⟩
  · rw [hx _ (by unfold stA; omega) (by unfold stA; omega)]; exact (hS i hi).1 0 (by omega)
  · obtain ⟨s1, s2, s3, s4⟩ := hS i hi
    have e : ∀ d, d ≤ 6 → rdM u p g (stA 53 i + d) = u (stA 53 i + d) := fun d hd => hx _ (by unfold stA; omega) (by unfold stA; omega)
    have e0 : rdM u p g (stA 53 i) = u (stA 53 i) := e 0 (by omega)
    exact ⟨fun k _ k2 => by rw [e0]; exact s1 k k2, by rw [e 1 (by omega)]; exact s2, f2 _ (by omega) (by omega), Nat.zero_le 6, fun k hk => absurd hk (Nat.not_lt_zero k), by rw [e 4 (by omega)]; exact s3, fun k hk => by rw [e 6 (by omega)]; exact s4 k hk, fun k k1 _ => f2 _ (by omega) (by omega)⟩
theorem FM.clr {ν : Mem} : FM ν (clrF ν) := ⟨fun x h0 h2 h4 => by unfold clrF; rw [upA_ne h2, upA_ne h4, up2_ne h0], fun k h _ _ => by unfold clrF; rw [upA_ne (by omega), upA_ne (by omega), up2_k h], fun j hj => by unfold clrF; rw [upA_at, if_neg (by omega)]⟩
theorem mmin200 {l : Nat} (h : l ≤ 200) : (if (200 : Int32) < nI l then 200 else nI l) = nI l := if_neg (nI_nlt (a := 200) h (by omega))
/-- a text, read by both -/
def TxR (μ ν : Mem) (tx : Nat → Nat) (l : Nat) : Prop := (∀ k, k < l → μ 1 k = nI (tx k)) ∧ MT ν tx l
set_option maxHeartbeats 4000000 in
set_option maxRecDepth 100000 in
theorem c_X3_firstFault0 {μ ν : Mem} {tx : Nat → Nat} {l : Nat} (hX : TxR μ ν tx l) {a : Int32} {U : Mem → Prop} (hU : ∀ u, NCL u 53 → (∀ x, (x < 53 ∨ 53 + 50 < x) → u x = μ x) → AW shC mX3_firstFault 25 [some (.ref 104), some (.int (nI l)), some (.int 0), none] [] (rdM (up2 u 104 3 (nI l)) 0 (u 105)) (fun r w => r = a ∧ U w)) : Con shC mX3_firstFault [.ref 104, .int (nI l)] μ (fun r u => r = a ∧ U u) := by
  have r0 : shC[104]? = some (3, 5, [some 1, some 53, some 105, none, none]) := rfl
  have r1 : shC[105]? = some (100, 3, []) := rfl
  have hn := net_53
  obtain ⟨hn0, hn1, hn2, hnS⟩ := id hn
  refine Con.ofAW (al0 := [some (.ref 104), some (.int (nI l)), none, none]) (by decide) rfl (Nat.le_of_ble_eq_true rfl) rfl ?_
  refine a_aload_n (pc := 0) dX3_firstFault_0 rfl rfl ?_
  refine a_getr (pc := 1) fl_X3_19 (by assumption) (by decide) (by rfl) dX3_firstFault_1 ?_
  refine a_callV0 (pc := 4) ck_X3_23 ⟨(Nat.le_of_ble_eq_true rfl), (Nat.le_of_ble_eq_true rfl)⟩ (by assumption) (by decide) (Nat.le_of_ble_eq_true rfl) dX3_firstFault_4 rfl (c_X2_clear net_53) ?_
  rintro u ⟨hC, hF⟩
  refine a_aload_n (pc := 7) dX3_firstFault_7 rfl rfl ?_
  refine a_iload_n (pc := 8) dX3_firstFault_8 rfl rfl ?_
  refine a_sipush (pc := 9) (v := 200) dX3_firstFault_9 (by decide) ?_
  refine a_mmin (pc := 12) nl_X3_28 nw_min1 nw_math nw_min3 (Nat.le_of_ble_eq_true rfl) (Nat.le_of_ble_eq_true rfl) dX3_firstFault_12 ?_
  refine a_top (y := nI l) (mmin200 hX.2.2.2.1) ?_
  refine a_puti (pc := 15) fp_X3_34 (by assumption) (by decide) (by rfl) dX3_firstFault_15 ?_
  refine a_aload_n (pc := 18) dX3_firstFault_18 rfl rfl ?_
  refine a_iconst (pc := 19) (v := 0) dX3_firstFault_19 (by decide) ?_
  refine a_puti (pc := 20) fp_X3_38 (by assumption) (by decide) (by rfl) dX3_firstFault_20 ?_
  refine a_iconst (pc := 23) (v := 0) dX3_firstFault_23 (by decide) ?_
  refine a_istore_n (pc := 24) (al' := [some (.ref _), some (.int _), some (.int _), none]) dX3_firstFault_24 rfl (by decide) rfl rfl ?_
  refine AW.cast (hU u hC hF) rfl rfl rfl ?_
  funext x k
  unfold rdM
  simp only [up2_ap, upA_ap]
  by_cases h5 : x = 105
  · subst h5; simp
  · simp only [if_neg h5]
    by_cases h4 : x = 104
    · subst h4; simp only [if_true, up2_ap]; rfl
    · simp only [if_neg h4, up2_ap]

