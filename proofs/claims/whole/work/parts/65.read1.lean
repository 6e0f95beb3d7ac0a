/-! the class reads: signs and numbers. rdM: the reader's place and numbers -/
def rdM (μ : Mem) (p : Nat) (g : Nat → Int32) : Mem := upA (up2 μ 104 4 (nI p)) 105 g
theorem rd_p {μ : Mem} {p : Nat} {g : Nat → Int32} : rdM μ p g 104 4 = nI p := by unfold rdM; rw [upA_ne (by omega), up2_at]
theorem rd_e {μ : Mem} {p : Nat} {g : Nat → Int32} : rdM μ p g 104 3 = μ 104 3 := by unfold rdM; rw [upA_ne (by omega), up2_k (by omega)]
theorem rd_g {μ : Mem} {p : Nat} {g : Nat → Int32} : rdM μ p g 105 = g := by unfold rdM; rw [upA_at]
theorem rd_x {μ : Mem} {p x : Nat} {g : Nat → Int32} (h : x ≠ 104) (h2 : x ≠ 105) : rdM μ p g x = μ x := by unfold rdM; rw [upA_ne h2, up2_ne h]
theorem rd_up {μ : Mem} {p q : Nat} {g : Nat → Int32} : up2 (rdM μ p g) 104 4 (nI q) = rdM μ q g := by
  funext x k; unfold rdM; simp only [up2_ap, upA_ap]
  by_cases h : x = 105
  · subst h; simp
  · by_cases h2 : x = 104
    · subst h2; simp; by_cases h3 : k = 4 <;> simp [h3, up2_ap]
    · simp [h, h2, up2_ap]
theorem rd_ug {μ : Mem} {p k : Nat} {g : Nat → Int32} {v : Int32} : up2 (rdM μ p g) 105 k v = rdM μ p (upd g k v) := by
  unfold rdM; rw [up2_upA]
theorem rd_self {μ : Mem} {p : Nat} (h : μ 104 4 = nI p) : rdM μ p (μ 105) = μ := by
  funext x k; unfold rdM; simp only [up2_ap, upA_ap]
  by_cases h5 : x = 105
  · subst h5; simp
  · by_cases h2 : x = 104
    · subst h2; simp; by_cases h3 : k = 4 <;> simp [h3, h, up2_ap]
    · simp [h5, h2, up2_ap]
def RT (μ : Mem) (tx : Nat → Nat) (l : Nat) : Prop := μ 104 3 = nI l ∧ (∀ k, k < l → μ 1 k = nI (tx k)) ∧ TX tx l
set_option maxHeartbeats 4000000 in
set_option maxRecDepth 100000 in
theorem c_X3_readSign {μ : Mem} {tx : Nat → Nat} {l p c : Nat} {g : Nat → Int32} (hT : RT μ tx l) (hp : p ≤ l) (hc : c < 127) : Con shC mX3_readSign [.ref 104, .int (nI c)] (rdM μ p g) (fun r u => (r = 1 ∧ (p < l ∧ tx p = c) ∧ u = rdM μ (p + 1) g) ∨ (r = 0 ∧ ¬ (p < l ∧ tx p = c) ∧ u = rdM μ p g)) := by
  have z1 : shC[1]? = some (101, 200, []) := rfl
  have r0 : shC[104]? = some (3, 5, [some 1, some 53, some 105, none, none]) := rfl
  have r1 : shC[105]? = some (100, 3, []) := rfl
  have hn := net_53
  obtain ⟨hn0, hn1, hn2, hnS⟩ := id hn
  obtain ⟨hE, hTx, hTX⟩ := id hT
  have hl200 := hTX.1
  refine Con.ofAW (al0 := [some (.ref 104), some (.int (nI c))]) (by decide) rfl (Nat.le_of_ble_eq_true rfl) rfl ?_
  refine a_aload_n (pc := 0) dX3_readSign_0 rfl rfl ?_
  refine a_geti (pc := 1) fl_X3_38 (by assumption) (by decide) (by rfl) dX3_readSign_1 ?_
  refine a_top (y := nI p) rd_p ?_
  refine a_aload_n (pc := 4) dX3_readSign_4 rfl rfl ?_
  refine a_geti (pc := 5) fl_X3_34 (by assumption) (by decide) (by rfl) dX3_readSign_5 ?_
  refine a_top (y := nI l) (by rw [rd_e]; exact hE) ?_
  refine a_icmp_ge (pc := 8) (tgt := 24) dX3_readSign_8 (by decide) (fun c_8 => ?_) (fun c_8 => ?_)
  · refine a_iconst (pc := 24) (v := 0) dX3_readSign_24 (by decide) ?_
    refine a_zret (pc := 25) rfl (by rfl) dX3_readSign_25 ?_
    first | exact Or.inr ⟨rfl, fun q => absurd (le_of_ge' (a := p) (b := l) (by omega) (by omega) c_8) (by omega), rfl⟩ | exact Or.inr ⟨rfl, fun q => c_21 (by rw [q.2]), rfl⟩
  · have hpl : p < l := lt_of_not_ge' (a := p) (b := l) (by omega) (by omega) c_8
    have htp := hTX.2 p hpl
    refine a_aload_n (pc := 11) dX3_readSign_11 rfl rfl ?_
    refine a_getr (pc := 12) fl_X3_15 (by assumption) (by decide) (by rfl) dX3_readSign_12 ?_
    refine a_aload_n (pc := 15) dX3_readSign_15 rfl rfl ?_
    refine a_geti (pc := 16) fl_X3_38 (by assumption) (by decide) (by rfl) dX3_readSign_16 ?_
    refine a_top (y := nI p) rd_p ?_
    refine a_cald (pc := 19) (j := p) (by assumption) rfl (by omega) (by decide) dX3_readSign_19 ?_
    refine a_top (y := nI (tx p)) (by rw [rd_x (by omega) (by omega)]; exact hTx p (by omega)) ?_
    refine a_iload_n (pc := 20) dX3_readSign_20 rfl rfl ?_
    refine a_icmp_eq (pc := 21) (tgt := 26) dX3_readSign_21 (by decide) (fun c_21 => ?_) (fun c_21 => ?_)
    · refine a_aload_n (pc := 26) dX3_readSign_26 rfl rfl ?_
      refine a_dup (pc := 27) dX3_readSign_27 rfl ?_
      refine a_geti (pc := 28) fl_X3_38 (by assumption) (by decide) (by rfl) dX3_readSign_28 ?_
      refine a_top (y := nI p) rd_p ?_
      refine a_iconst (pc := 31) (v := 1) dX3_readSign_31 (by decide) ?_
      refine a_iaddN (pc := 32) (a := _) (b := 1) rfl rfl dX3_readSign_32 ?_
      refine a_puti (pc := 33) fp_X3_38 (by assumption) (by decide) (by rfl) dX3_readSign_33 ?_
      refine a_iconst (pc := 36) (v := 1) dX3_readSign_36 (by decide) ?_
      refine a_zret (pc := 37) rfl (by rfl) dX3_readSign_37 ?_
      exact Or.inl ⟨rfl, ⟨hpl, (nI_eq (by omega) (by omega)).mp c_21⟩, rd_up⟩
    · refine a_iconst (pc := 24) (v := 0) dX3_readSign_24 (by decide) ?_
      refine a_zret (pc := 25) rfl (by rfl) dX3_readSign_25 ?_
      first | exact Or.inr ⟨rfl, fun q => absurd (le_of_ge' (a := p) (b := l) (by omega) (by omega) c_8) (by omega), rfl⟩ | exact Or.inr ⟨rfl, fun q => c_21 (by rw [q.2]), rfl⟩

set_option maxHeartbeats 4000000 in
set_option maxRecDepth 100000 in
theorem e_X3_readNumber {μ : Mem} {tx : Nat → Nat} {l p k v n : Nat} {g : Nat → Int32} (hT : RT μ tx l) (hk : k < 3) (hn4 : n ≤ 4) : AW shC mX3_readNumber 82 [some (.ref 104), some (.int (nI k)), some (.int (nI v)), some (.int (nI n))] [] (rdM μ p g) (fun r u => (r = 1 ∧ 0 < n ∨ r = 0 ∧ n = 0) ∧ u = rdM μ p (upd g k (nI v))) := by
  have z1 : shC[1]? = some (101, 200, []) := rfl
  have r0 : shC[104]? = some (3, 5, [some 1, some 53, some 105, none, none]) := rfl
  have r1 : shC[105]? = some (100, 3, []) := rfl
  have hn := net_53
  obtain ⟨hn0, hn1, hn2, hnS⟩ := id hn
  obtain ⟨hE, hTx, hTX⟩ := id hT
  have hl200 := hTX.1
  refine a_aload_n (pc := 82) dX3_readNumber_82 rfl rfl ?_
  refine a_getr (pc := 83) fl_X3_11 (by assumption) (by decide) (by rfl) dX3_readNumber_83 ?_
  refine a_iload_n (pc := 86) dX3_readNumber_86 rfl rfl ?_
  refine a_iload_n (pc := 87) dX3_readNumber_87 rfl rfl ?_
  refine a_iast (pc := 88) (j := k) (by assumption) rfl (by omega) (by decide) dX3_readNumber_88 ?_
  refine a_iload_n (pc := 89) dX3_readNumber_89 rfl rfl ?_
  refine a_if_le (pc := 90) (tgt := 97) dX3_readNumber_90 (by decide) (fun c_90 => ?_) (fun c_90 => ?_)
  · refine a_iconst (pc := 97) (v := 0) dX3_readNumber_97 (by decide) ?_
    refine a_zret (pc := 98) rfl (by rfl) dX3_readNumber_98 ?_
    refine ⟨?_, rd_ug⟩
    first | exact Or.inl ⟨rfl, (nI_ltI (a := 0) (by omega) (by omega)).mp (Int32.not_le.mp c_90)⟩ | exact Or.inr ⟨rfl, Nat.le_zero.mp ((nI_leI (b := 0) (by omega) (by omega)).mp c_90)⟩
  · refine a_iconst (pc := 93) (v := 1) dX3_readNumber_93 (by decide) ?_
    refine a_goto (pc := 94) (tgt := 98) dX3_readNumber_94 (by decide) ?_
    refine a_zret (pc := 98) rfl (by rfl) dX3_readNumber_98 ?_
    refine ⟨?_, rd_ug⟩
    first | exact Or.inl ⟨rfl, (nI_ltI (a := 0) (by omega) (by omega)).mp (Int32.not_le.mp c_90)⟩ | exact Or.inr ⟨rfl, Nat.le_zero.mp ((nI_leI (b := 0) (by omega) (by omega)).mp c_90)⟩

set_option maxHeartbeats 4000000 in
set_option maxRecDepth 100000 in
theorem l_X3_readNumber {μ : Mem} {tx : Nat → Nat} {l k : Nat} {g : Nat → Int32} (hT : RT μ tx l) (hk : k < 3) : ∀ d n p v : Nat, n + d = 4 → p ≤ l → AW shC mX3_readNumber 4 [some (.ref 104), some (.int (nI k)), some (.int (nI v)), some (.int (nI n))] [] (rdM μ p g) (fun r u => (r = 1 ∧ 0 < n + ndg tx l d p ∨ r = 0 ∧ n + ndg tx l d p = 0) ∧ u = rdM μ (p + ndg tx l d p) (upd g k (nI (nvl tx l d p v)))) := by
  have z1 : shC[1]? = some (101, 200, []) := rfl
  have r0 : shC[104]? = some (3, 5, [some 1, some 53, some 105, none, none]) := rfl
  have r1 : shC[105]? = some (100, 3, []) := rfl
  have hn := net_53
  obtain ⟨hn0, hn1, hn2, hnS⟩ := id hn
  obtain ⟨hE, hTx, hTX⟩ := id hT
  have hl200 := hTX.1
  intro d
  induction d with
  | zero =>
    intro n p v hd hpl
    refine a_iload_n (pc := 4) dX3_readNumber_4 rfl rfl ?_
    refine a_iconst (pc := 5) (v := 4) dX3_readNumber_5 (by decide) ?_
    refine a_icmp_ge (pc := 6) (tgt := 82) dX3_readNumber_6 (by decide) (fun c_6 => ?_) (fun c_6 => ?_)
    · refine AW.mono (e_X3_readNumber hT hk (by omega)) ?_
      rintro r u ⟨hr, rfl⟩
      exact ⟨hr, rfl⟩
    · exact absurd (nI_le (a := 4) (b := n) (by omega) (by omega)) c_6
  | succ d ih =>
    intro n p v hd hpl
    refine a_iload_n (pc := 4) dX3_readNumber_4 rfl rfl ?_
    refine a_iconst (pc := 5) (v := 4) dX3_readNumber_5 (by decide) ?_
    refine a_icmp_ge (pc := 6) (tgt := 82) dX3_readNumber_6 (by decide) (fun c_6 => ?_) (fun c_6 => ?_)
    · exact absurd c_6 (nI_ge (a := n) (b := 4) (by omega) (by omega))
    · refine a_aload_n (pc := 9) dX3_readNumber_9 rfl rfl ?_
      refine a_geti (pc := 10) fl_X3_38 (by assumption) (by decide) (by rfl) dX3_readNumber_10 ?_
      refine a_top (y := nI p) rd_p ?_
      refine a_aload_n (pc := 13) dX3_readNumber_13 rfl rfl ?_
      refine a_geti (pc := 14) fl_X3_34 (by assumption) (by decide) (by rfl) dX3_readNumber_14 ?_
      refine a_top (y := nI l) (by rw [rd_e]; exact hE) ?_
      refine a_icmp_ge (pc := 17) (tgt := 82) dX3_readNumber_17 (by decide) (fun c_17 => ?_) (fun c_17 => ?_)
      · have hdg : ¬ dgP tx l p := fun q => absurd (le_of_ge' (a := p) (b := l) (by omega) (by omega) c_17) (by have := q.1; omega)
        refine AW.mono (e_X3_readNumber hT hk (by omega)) ?_
        rintro r u ⟨hr, rfl⟩
        unfold ndg nvl
        rw [if_neg hdg, if_neg hdg]
        exact ⟨hr, rfl⟩
      · have hpl2 : p < l := lt_of_not_ge' (a := p) (b := l) (by omega) (by omega) c_17
        have htp := hTX.2 p hpl2
        refine a_aload_n (pc := 20) dX3_readNumber_20 rfl rfl ?_
        refine a_getr (pc := 21) fl_X3_15 (by assumption) (by decide) (by rfl) dX3_readNumber_21 ?_
        refine a_aload_n (pc := 24) dX3_readNumber_24 rfl rfl ?_
        refine a_geti (pc := 25) fl_X3_38 (by assumption) (by decide) (by rfl) dX3_readNumber_25 ?_
        refine a_top (y := nI p) rd_p ?_
        refine a_cald (pc := 28) (j := p) (by assumption) rfl (by omega) (by decide) dX3_readNumber_28 ?_
        refine a_top (y := nI (tx p)) (by rw [rd_x (by omega) (by omega)]; exact hTx p (by omega)) ?_
        refine a_bipush (pc := 29) (v := 48) dX3_readNumber_29 (by decide) ?_
        refine a_icmp_lt (pc := 31) (tgt := 82) dX3_readNumber_31 (by decide) (fun c_31 => ?_) (fun c_31 => ?_)
        · have hdg : ¬ dgP tx l p := fun q => absurd ((nI_ltI (a := tx p) (b := 48) (by omega) (by omega)).mp c_31) (by have := q.2.1; omega)
          refine AW.mono (e_X3_readNumber hT hk (by omega)) ?_
          rintro r u ⟨hr, rfl⟩
          unfold ndg nvl
          rw [if_neg hdg, if_neg hdg]
          exact ⟨hr, rfl⟩
        · have h48 : 48 ≤ tx p := (nI_leI (a := 48) (b := tx p) (by omega) (by omega)).mp (Int32.not_lt.mp c_31)
          refine a_aload_n (pc := 34) dX3_readNumber_34 rfl rfl ?_
          refine a_getr (pc := 35) fl_X3_15 (by assumption) (by decide) (by rfl) dX3_readNumber_35 ?_
          refine a_aload_n (pc := 38) dX3_readNumber_38 rfl rfl ?_
          refine a_geti (pc := 39) fl_X3_38 (by assumption) (by decide) (by rfl) dX3_readNumber_39 ?_
          refine a_top (y := nI p) rd_p ?_
          refine a_cald (pc := 42) (j := p) (by assumption) rfl (by omega) (by decide) dX3_readNumber_42 ?_
          refine a_top (y := nI (tx p)) (by rw [rd_x (by omega) (by omega)]; exact hTx p (by omega)) ?_
          refine a_bipush (pc := 43) (v := 57) dX3_readNumber_43 (by decide) ?_
          refine a_icmp_gt (pc := 45) (tgt := 82) dX3_readNumber_45 (by decide) (fun c_45 => ?_) (fun c_45 => ?_)
          · have hdg : ¬ dgP tx l p := fun q => absurd ((nI_ltI (a := 57) (b := tx p) (by omega) (by omega)).mp c_45) (by have := q.2.2; omega)
            refine AW.mono (e_X3_readNumber hT hk (by omega)) ?_
            rintro r u ⟨hr, rfl⟩
            unfold ndg nvl
            rw [if_neg hdg, if_neg hdg]
            exact ⟨hr, rfl⟩
          · have h57 : tx p ≤ 57 := (nI_leI (a := tx p) (b := 57) (by omega) (by omega)).mp (Int32.not_lt.mp c_45)
            refine a_bipush (pc := 48) (v := 10) dX3_readNumber_48 (by decide) ?_
            refine a_iload_n (pc := 50) dX3_readNumber_50 rfl rfl ?_
            refine a_imulN (pc := 51) (a := 10) (b := _) rfl rfl dX3_readNumber_51 ?_
            refine a_aload_n (pc := 52) dX3_readNumber_52 rfl rfl ?_
            refine a_getr (pc := 53) fl_X3_15 (by assumption) (by decide) (by rfl) dX3_readNumber_53 ?_
            refine a_aload_n (pc := 56) dX3_readNumber_56 rfl rfl ?_
            refine a_geti (pc := 57) fl_X3_38 (by assumption) (by decide) (by rfl) dX3_readNumber_57 ?_
            refine a_top (y := nI p) rd_p ?_
            refine a_cald (pc := 60) (j := p) (by assumption) rfl (by omega) (by decide) dX3_readNumber_60 ?_
            refine a_top (y := nI (tx p)) (by rw [rd_x (by omega) (by omega)]; exact hTx p (by omega)) ?_
            refine a_bipush (pc := 61) (v := 48) dX3_readNumber_61 (by decide) ?_
            refine a_isubN (pc := 63) (a := _) (b := 48) rfl rfl h48 dX3_readNumber_63 ?_
            refine a_iaddN (pc := 64) (a := _) (b := _) rfl rfl dX3_readNumber_64 ?_
            refine a_istore_n (pc := 65) (al' := [some (.ref _), some (.int _), some (.int _), some (.int _)]) dX3_readNumber_65 rfl (by decide) rfl rfl ?_
            refine a_iincN (pc := 66) (m := 1) (al' := [some (.ref _), some (.int _), some (.int _), some (.int _)]) dX3_readNumber_66 rfl (by decide) rfl rfl ?_
            refine a_aload_n (pc := 69) dX3_readNumber_69 rfl rfl ?_
            refine a_dup (pc := 70) dX3_readNumber_70 rfl ?_
            refine a_geti (pc := 71) fl_X3_38 (by assumption) (by decide) (by rfl) dX3_readNumber_71 ?_
            refine a_top (y := nI p) rd_p ?_
            refine a_iconst (pc := 74) (v := 1) dX3_readNumber_74 (by decide) ?_
            refine a_iaddN (pc := 75) (a := _) (b := 1) rfl rfl dX3_readNumber_75 ?_
            refine a_puti (pc := 76) fp_X3_38 (by assumption) (by decide) (by rfl) dX3_readNumber_76 ?_
            refine a_goto (pc := 79) (tgt := 4) dX3_readNumber_79 (by decide) ?_
            have hdg : dgP tx l p := ⟨hpl2, h48, h57⟩
            rw [rd_up]
            refine AW.mono (ih (n + 1) (p + 1) (10 * v + (tx p - 48)) (by omega) (by omega)) ?_
            rintro r u ⟨hr, rfl⟩
            rw [show ndg tx l (d + 1) p = ndg tx l d (p + 1) + 1 from if_pos hdg, show nvl tx l (d + 1) p v = nvl tx l d (p + 1) (10 * v + (tx p - 48)) from if_pos hdg]
            exact ⟨hr.imp (fun q => ⟨q.1, by omega⟩) (fun q => ⟨q.1, by omega⟩), by rw [show p + (ndg tx l d (p + 1) + 1) = p + 1 + ndg tx l d (p + 1) by omega]⟩

set_option maxHeartbeats 4000000 in
set_option maxRecDepth 100000 in
theorem c_X3_readNumber {μ : Mem} {tx : Nat → Nat} {l p k : Nat} {g : Nat → Int32} (hT : RT μ tx l) (hp : p ≤ l) (hk : k < 3) : Con shC mX3_readNumber [.ref 104, .int (nI k)] (rdM μ p g) (fun r u => (r = 1 ∧ p < nE tx l p ∨ r = 0 ∧ ¬ p < nE tx l p) ∧ u = rdM μ (nE tx l p) (upd g k (nI (nV tx l p)))) := by
  have z1 : shC[1]? = some (101, 200, []) := rfl
  have r0 : shC[104]? = some (3, 5, [some 1, some 53, some 105, none, none]) := rfl
  have r1 : shC[105]? = some (100, 3, []) := rfl
  have hn := net_53
  obtain ⟨hn0, hn1, hn2, hnS⟩ := id hn
  obtain ⟨hE, hTx, hTX⟩ := id hT
  have hl200 := hTX.1
  refine Con.ofAW (al0 := [some (.ref 104), some (.int (nI k)), none, none]) (by decide) rfl (Nat.le_of_ble_eq_true rfl) rfl ?_
  refine a_iconst (pc := 0) (v := 0) dX3_readNumber_0 (by decide) ?_
  refine a_istore_n (pc := 1) (al' := [some (.ref _), some (.int _), some (.int _), none]) dX3_readNumber_1 rfl (by decide) rfl rfl ?_
  refine a_iconst (pc := 2) (v := 0) dX3_readNumber_2 (by decide) ?_
  refine a_istore_n (pc := 3) (al' := [some (.ref _), some (.int _), some (.int _), some (.int _)]) dX3_readNumber_3 rfl (by decide) rfl rfl ?_
  refine AW.mono (l_X3_readNumber hT hk 4 0 p 0 rfl hp) ?_
  rintro r u ⟨hr, rfl⟩
  exact ⟨hr.imp (fun q => ⟨q.1, by unfold nE; omega⟩) (fun q => ⟨q.1, by unfold nE; omega⟩), rfl⟩

def nP (tx : Nat → Nat) (l p c : Nat) : Prop := p < nE tx l p ∧ nE tx l p < l ∧ tx (nE tx l p) = c
theorem nP_le {tx : Nat → Nat} {l p c : Nat} (h : nP tx l p c) : nE tx l p + 1 ≤ l := h.2.1
set_option maxHeartbeats 4000000 in
set_option maxRecDepth 100000 in
theorem c_X3_readNumbers1 {μ : Mem} {tx : Nat → Nat} {l p : Nat} {g : Nat → Int32} (hT : RT μ tx l) (hq0 : p ≤ l) : Con shC mX3_readNumbers [.ref 104, .int 1] (rdM μ p g) (fun r u => (r = 1 ∧ (nP tx l p 59) ∧ u = rdM μ (nE tx l p + 1) (upd g 0 (nI (nV tx l p)))) ∨ (r = 0 ∧ ¬ (nP tx l p 59) ∧ ∃ p2 g2, u = rdM μ p2 g2)) := by
  have z1 : shC[1]? = some (101, 200, []) := rfl
  have r0 : shC[104]? = some (3, 5, [some 1, some 53, some 105, none, none]) := rfl
  have r1 : shC[105]? = some (100, 3, []) := rfl
  have hn := net_53
  obtain ⟨hn0, hn1, hn2, hnS⟩ := id hn
  obtain ⟨hE, hTx, hTX⟩ := id hT
  have hl200 := hTX.1
  refine Con.ofAW (al0 := [some (.ref 104), some (.int 1), none, none]) (by decide) rfl (Nat.le_of_ble_eq_true rfl) rfl ?_
  refine a_iconst (pc := 0) (v := 0) dX3_readNumbers_0 (by decide) ?_
  refine a_istore_n (pc := 1) (al' := [some (.ref _), some (.int _), some (.int _), none]) dX3_readNumbers_1 rfl (by decide) rfl rfl ?_
  refine a_iload_n (pc := 2) dX3_readNumbers_2 rfl rfl ?_
  refine a_iload_n (pc := 3) dX3_readNumbers_3 rfl rfl ?_
  refine a_icmp_ge (pc := 4) (tgt := 51) dX3_readNumbers_4 (by decide) (fun c_4 => ?_) (fun c_4 => ?_)
  · exact absurd c_4 (by decide)
  · refine a_iload_n (pc := 7) dX3_readNumbers_7 rfl rfl ?_
    refine a_iconst (pc := 8) (v := 3) dX3_readNumbers_8 (by decide) ?_
    refine a_icmp_ge (pc := 9) (tgt := 51) dX3_readNumbers_9 (by decide) (fun c_9 => ?_) (fun c_9 => ?_)
    · exact absurd c_9 (by decide)
    · refine a_iload_n (pc := 12) dX3_readNumbers_12 rfl rfl ?_
      refine a_iload_n (pc := 13) dX3_readNumbers_13 rfl rfl ?_
      refine a_iconst (pc := 14) (v := 1) dX3_readNumbers_14 (by decide) ?_
      refine a_isub (pc := 15) dX3_readNumbers_15 ?_
      refine a_top (y := 0) rfl ?_
      refine a_icmp_ne (pc := 16) (tgt := 24) dX3_readNumbers_16 (by decide) (fun c_16 => ?_) (fun c_16 => ?_)
      · exact absurd c_16 (by decide)
      · refine a_bipush (pc := 19) (v := 59) dX3_readNumbers_19 (by decide) ?_
        refine a_goto (pc := 21) (tgt := 26) dX3_readNumbers_21 (by decide) ?_
        refine a_istore_n (pc := 26) (al' := [some (.ref _), some (.int _), some (.int _), some (.int _)]) dX3_readNumbers_26 rfl (by decide) rfl rfl ?_
        refine a_aload_n (pc := 27) dX3_readNumbers_27 rfl rfl ?_
        refine a_iload_n (pc := 28) dX3_readNumbers_28 rfl rfl ?_
        refine a_callI1 (pc := 29) ck_X3_63 ⟨(Nat.le_of_ble_eq_true rfl), (Nat.le_of_ble_eq_true rfl)⟩ (by assumption) (by decide) (Nat.le_of_ble_eq_true rfl) dX3_readNumbers_29 rfl (c_X3_readNumber (k := 0) hT (by have := hq0; omega) (by decide)) ?_
        rintro r0 u ⟨hr0, rfl⟩
        refine a_if_eq (pc := 32) (tgt := 43) dX3_readNumbers_32 (by decide) (fun c_32 => ?_) (fun c_32 => ?_)
        · refine a_iconst (pc := 43) (v := 0) dX3_readNumbers_43 (by decide) ?_
          refine a_zret (pc := 44) rfl (by rfl) dX3_readNumbers_44 ?_
          first | (rcases hs0 with b | b <;> first | exact absurd (b.1.symm.trans c_40) (by decide) | exact Or.inr ⟨rfl, fun q => b.2.1 (q).2, _, _, b.2.2⟩) | (exact Or.inr ⟨rfl, fun q => by have w := q; rcases hr0 with a | a <;> first | exact absurd (a.1.symm.trans c_32) (by decide) | exact a.2 w.1, _, _, rfl⟩)
        · refine a_aload_n (pc := 35) dX3_readNumbers_35 rfl rfl ?_
          refine a_iload_n (pc := 36) dX3_readNumbers_36 rfl rfl ?_
          refine a_callI1 (pc := 37) ck_X3_66 ⟨(Nat.le_of_ble_eq_true rfl), (Nat.le_of_ble_eq_true rfl)⟩ (by assumption) (by decide) (Nat.le_of_ble_eq_true rfl) dX3_readNumbers_37 rfl (c_X3_readSign (c := 59) hT (nE_le (by have := hq0; omega)) (by decide)) ?_
          rintro s0 u hs0
          refine a_if_ne (pc := 40) (tgt := 45) dX3_readNumbers_40 (by decide) (fun c_40 => ?_) (fun c_40 => ?_)
          · obtain ⟨-, hw0, rfl⟩ := hs0.resolve_right (fun w => c_40 w.1)
            have hk0 : nP tx l p 59 := ⟨(hr0.resolve_right (fun w => c_32 w.1)).2, hw0⟩
            have hq1 : (nE tx l p + 1) ≤ l := hk0.2.1
            refine a_iinc (pc := 45) (v := 1) (al' := [some (.ref _), some (.int _), some (.int _), some (.int _)]) dX3_readNumbers_45 rfl (by decide) (by decide) rfl rfl ?_
            refine a_goto (pc := 48) (tgt := 2) dX3_readNumbers_48 (by decide) ?_
            refine a_iload_n (pc := 2) dX3_readNumbers_2 rfl rfl ?_
            refine a_iload_n (pc := 3) dX3_readNumbers_3 rfl rfl ?_
            refine a_icmp_ge (pc := 4) (tgt := 51) dX3_readNumbers_4 (by decide) (fun c_4 => ?_) (fun c_4 => ?_)
            · refine a_iconst (pc := 51) (v := 1) dX3_readNumbers_51 (by decide) ?_
              refine a_zret (pc := 52) rfl (by rfl) dX3_readNumbers_52 ?_
              exact Or.inl ⟨rfl, hk0, rfl⟩
            · exact absurd c_4 (by decide)
          · refine a_iconst (pc := 43) (v := 0) dX3_readNumbers_43 (by decide) ?_
            refine a_zret (pc := 44) rfl (by rfl) dX3_readNumbers_44 ?_
            first | (rcases hs0 with b | b <;> first | exact absurd (b.1.symm.trans c_40) (by decide) | exact Or.inr ⟨rfl, fun q => b.2.1 (q).2, _, _, b.2.2⟩) | (exact Or.inr ⟨rfl, fun q => by have w := q; rcases hr0 with a | a <;> first | exact absurd (a.1.symm.trans c_32) (by decide) | exact a.2 w.1, _, _, rfl⟩)

set_option maxHeartbeats 4000000 in
set_option maxRecDepth 100000 in
theorem c_X3_readNumbers2 {μ : Mem} {tx : Nat → Nat} {l p : Nat} {g : Nat → Int32} (hT : RT μ tx l) (hq0 : p ≤ l) : Con shC mX3_readNumbers [.ref 104, .int 2] (rdM μ p g) (fun r u => (r = 1 ∧ (nP tx l p 44 ∧ nP tx l (nE tx l p + 1) 59) ∧ u = rdM μ (nE tx l (nE tx l p + 1) + 1) (upd (upd g 0 (nI (nV tx l p))) 1 (nI (nV tx l (nE tx l p + 1))))) ∨ (r = 0 ∧ ¬ (nP tx l p 44 ∧ nP tx l (nE tx l p + 1) 59) ∧ ∃ p2 g2, u = rdM μ p2 g2)) := by
  have z1 : shC[1]? = some (101, 200, []) := rfl
  have r0 : shC[104]? = some (3, 5, [some 1, some 53, some 105, none, none]) := rfl
  have r1 : shC[105]? = some (100, 3, []) := rfl
  have hn := net_53
  obtain ⟨hn0, hn1, hn2, hnS⟩ := id hn
  obtain ⟨hE, hTx, hTX⟩ := id hT
  have hl200 := hTX.1
  refine Con.ofAW (al0 := [some (.ref 104), some (.int 2), none, none]) (by decide) rfl (Nat.le_of_ble_eq_true rfl) rfl ?_
  refine a_iconst (pc := 0) (v := 0) dX3_readNumbers_0 (by decide) ?_
  refine a_istore_n (pc := 1) (al' := [some (.ref _), some (.int _), some (.int _), none]) dX3_readNumbers_1 rfl (by decide) rfl rfl ?_
  refine a_iload_n (pc := 2) dX3_readNumbers_2 rfl rfl ?_
  refine a_iload_n (pc := 3) dX3_readNumbers_3 rfl rfl ?_
  refine a_icmp_ge (pc := 4) (tgt := 51) dX3_readNumbers_4 (by decide) (fun c_4 => ?_) (fun c_4 => ?_)
  · exact absurd c_4 (by decide)
  · refine a_iload_n (pc := 7) dX3_readNumbers_7 rfl rfl ?_
    refine a_iconst (pc := 8) (v := 3) dX3_readNumbers_8 (by decide) ?_
    refine a_icmp_ge (pc := 9) (tgt := 51) dX3_readNumbers_9 (by decide) (fun c_9 => ?_) (fun c_9 => ?_)
    · exact absurd c_9 (by decide)
    · refine a_iload_n (pc := 12) dX3_readNumbers_12 rfl rfl ?_
      refine a_iload_n (pc := 13) dX3_readNumbers_13 rfl rfl ?_
      refine a_iconst (pc := 14) (v := 1) dX3_readNumbers_14 (by decide) ?_
      refine a_isub (pc := 15) dX3_readNumbers_15 ?_
      refine a_top (y := 1) rfl ?_
      refine a_icmp_ne (pc := 16) (tgt := 24) dX3_readNumbers_16 (by decide) (fun c_16 => ?_) (fun c_16 => ?_)
      · refine a_bipush (pc := 24) (v := 44) dX3_readNumbers_24 (by decide) ?_
        refine a_istore_n (pc := 26) (al' := [some (.ref _), some (.int _), some (.int _), some (.int _)]) dX3_readNumbers_26 rfl (by decide) rfl rfl ?_
        refine a_aload_n (pc := 27) dX3_readNumbers_27 rfl rfl ?_
        refine a_iload_n (pc := 28) dX3_readNumbers_28 rfl rfl ?_
        refine a_callI1 (pc := 29) ck_X3_63 ⟨(Nat.le_of_ble_eq_true rfl), (Nat.le_of_ble_eq_true rfl)⟩ (by assumption) (by decide) (Nat.le_of_ble_eq_true rfl) dX3_readNumbers_29 rfl (c_X3_readNumber (k := 0) hT (by have := hq0; omega) (by decide)) ?_
        rintro r0 u ⟨hr0, rfl⟩
        refine a_if_eq (pc := 32) (tgt := 43) dX3_readNumbers_32 (by decide) (fun c_32 => ?_) (fun c_32 => ?_)
        · refine a_iconst (pc := 43) (v := 0) dX3_readNumbers_43 (by decide) ?_
          refine a_zret (pc := 44) rfl (by rfl) dX3_readNumbers_44 ?_
          first | (rcases hs1 with b | b <;> first | exact absurd (b.1.symm.trans c_40) (by decide) | exact Or.inr ⟨rfl, fun q => b.2.1 (q.2).2, _, _, b.2.2⟩) | (exact Or.inr ⟨rfl, fun q => by have w := q.2; rcases hr1 with a | a <;> first | exact absurd (a.1.symm.trans c_32) (by decide) | exact a.2 w.1, _, _, rfl⟩) | (rcases hs0 with b | b <;> first | exact absurd (b.1.symm.trans c_40) (by decide) | exact Or.inr ⟨rfl, fun q => b.2.1 (q.1).2, _, _, b.2.2⟩) | (exact Or.inr ⟨rfl, fun q => by have w := q.1; rcases hr0 with a | a <;> first | exact absurd (a.1.symm.trans c_32) (by decide) | exact a.2 w.1, _, _, rfl⟩)
        · refine a_aload_n (pc := 35) dX3_readNumbers_35 rfl rfl ?_
          refine a_iload_n (pc := 36) dX3_readNumbers_36 rfl rfl ?_
          refine a_callI1 (pc := 37) ck_X3_66 ⟨(Nat.le_of_ble_eq_true rfl), (Nat.le_of_ble_eq_true rfl)⟩ (by assumption) (by decide) (Nat.le_of_ble_eq_true rfl) dX3_readNumbers_37 rfl (c_X3_readSign (c := 44) hT (nE_le (by have := hq0; omega)) (by decide)) ?_
          rintro s0 u hs0
          refine a_if_ne (pc := 40) (tgt := 45) dX3_readNumbers_40 (by decide) (fun c_40 => ?_) (fun c_40 => ?_)
          · obtain ⟨-, hw0, rfl⟩ := hs0.resolve_right (fun w => c_40 w.1)
            have hk0 : nP tx l p 44 := ⟨(hr0.resolve_right (fun w => c_32 w.1)).2, hw0⟩
            have hq1 : (nE tx l p + 1) ≤ l := hk0.2.1
            refine a_iinc (pc := 45) (v := 1) (al' := [some (.ref _), some (.int _), some (.int _), some (.int _)]) dX3_readNumbers_45 rfl (by decide) (by decide) rfl rfl ?_
            refine a_goto (pc := 48) (tgt := 2) dX3_readNumbers_48 (by decide) ?_
            refine a_iload_n (pc := 2) dX3_readNumbers_2 rfl rfl ?_
            refine a_iload_n (pc := 3) dX3_readNumbers_3 rfl rfl ?_
            refine a_icmp_ge (pc := 4) (tgt := 51) dX3_readNumbers_4 (by decide) (fun c_4 => ?_) (fun c_4 => ?_)
            · exact absurd c_4 (by decide)
            · refine a_iload_n (pc := 7) dX3_readNumbers_7 rfl rfl ?_
              refine a_iconst (pc := 8) (v := 3) dX3_readNumbers_8 (by decide) ?_
              refine a_icmp_ge (pc := 9) (tgt := 51) dX3_readNumbers_9 (by decide) (fun c_9 => ?_) (fun c_9 => ?_)
              · exact absurd c_9 (by decide)
              · refine a_iload_n (pc := 12) dX3_readNumbers_12 rfl rfl ?_
                refine a_iload_n (pc := 13) dX3_readNumbers_13 rfl rfl ?_
                refine a_iconst (pc := 14) (v := 1) dX3_readNumbers_14 (by decide) ?_
                refine a_isub (pc := 15) dX3_readNumbers_15 ?_
                refine a_top (y := 1) rfl ?_
                refine a_icmp_ne (pc := 16) (tgt := 24) dX3_readNumbers_16 (by decide) (fun c_16 => ?_) (fun c_16 => ?_)
                · exact absurd c_16 (by decide)
                · refine a_bipush (pc := 19) (v := 59) dX3_readNumbers_19 (by decide) ?_
                  refine a_goto (pc := 21) (tgt := 26) dX3_readNumbers_21 (by decide) ?_
                  refine a_istore_n (pc := 26) (al' := [some (.ref _), some (.int _), some (.int _), some (.int _)]) dX3_readNumbers_26 rfl (by decide) rfl rfl ?_
                  refine a_aload_n (pc := 27) dX3_readNumbers_27 rfl rfl ?_
                  refine a_iload_n (pc := 28) dX3_readNumbers_28 rfl rfl ?_
                  refine a_callI1 (pc := 29) ck_X3_63 ⟨(Nat.le_of_ble_eq_true rfl), (Nat.le_of_ble_eq_true rfl)⟩ (by assumption) (by decide) (Nat.le_of_ble_eq_true rfl) dX3_readNumbers_29 rfl (c_X3_readNumber (k := 1) hT (by have := hq1; omega) (by decide)) ?_
                  rintro r1 u ⟨hr1, rfl⟩
                  refine a_if_eq (pc := 32) (tgt := 43) dX3_readNumbers_32 (by decide) (fun c_32 => ?_) (fun c_32 => ?_)
                  · refine a_iconst (pc := 43) (v := 0) dX3_readNumbers_43 (by decide) ?_
                    refine a_zret (pc := 44) rfl (by rfl) dX3_readNumbers_44 ?_
                    first | (rcases hs1 with b | b <;> first | exact absurd (b.1.symm.trans c_40) (by decide) | exact Or.inr ⟨rfl, fun q => b.2.1 (q.2).2, _, _, b.2.2⟩) | (exact Or.inr ⟨rfl, fun q => by have w := q.2; rcases hr1 with a | a <;> first | exact absurd (a.1.symm.trans c_32) (by decide) | exact a.2 w.1, _, _, rfl⟩) | (rcases hs0 with b | b <;> first | exact absurd (b.1.symm.trans c_40) (by decide) | exact Or.inr ⟨rfl, fun q => b.2.1 (q.1).2, _, _, b.2.2⟩) | (exact Or.inr ⟨rfl, fun q => by have w := q.1; rcases hr0 with a | a <;> first | exact absurd (a.1.symm.trans c_32) (by decide) | exact a.2 w.1, _, _, rfl⟩)
                  · refine a_aload_n (pc := 35) dX3_readNumbers_35 rfl rfl ?_
                    refine a_iload_n (pc := 36) dX3_readNumbers_36 rfl rfl ?_
                    refine a_callI1 (pc := 37) ck_X3_66 ⟨(Nat.le_of_ble_eq_true rfl), (Nat.le_of_ble_eq_true rfl)⟩ (by assumption) (by decide) (Nat.le_of_ble_eq_true rfl) dX3_readNumbers_37 rfl (c_X3_readSign (c := 59) hT (nE_le (by have := hq1; omega)) (by decide)) ?_
                    rintro s1 u hs1
                    refine a_if_ne (pc := 40) (tgt := 45) dX3_readNumbers_40 (by decide) (fun c_40 => ?_) (fun c_40 => ?_)
                    · obtain ⟨-, hw1, rfl⟩ := hs1.resolve_right (fun w => c_40 w.1)
                      have hk1 : nP tx l (nE tx l p + 1) 59 := ⟨(hr1.resolve_right (fun w => c_32 w.1)).2, hw1⟩
                      have hq2 : (nE tx l (nE tx l p + 1) + 1) ≤ l := hk1.2.1
                      refine a_iinc (pc := 45) (v := 2) (al' := [some (.ref _), some (.int _), some (.int _), some (.int _)]) dX3_readNumbers_45 rfl (by decide) (by decide) rfl rfl ?_
                      refine a_goto (pc := 48) (tgt := 2) dX3_readNumbers_48 (by decide) ?_
                      refine a_iload_n (pc := 2) dX3_readNumbers_2 rfl rfl ?_
                      refine a_iload_n (pc := 3) dX3_readNumbers_3 rfl rfl ?_
                      refine a_icmp_ge (pc := 4) (tgt := 51) dX3_readNumbers_4 (by decide) (fun c_4 => ?_) (fun c_4 => ?_)
                      · refine a_iconst (pc := 51) (v := 1) dX3_readNumbers_51 (by decide) ?_
                        refine a_zret (pc := 52) rfl (by rfl) dX3_readNumbers_52 ?_
                        exact Or.inl ⟨rfl, ⟨hk0, hk1⟩, rfl⟩
                      · exact absurd c_4 (by decide)
                    · refine a_iconst (pc := 43) (v := 0) dX3_readNumbers_43 (by decide) ?_
                      refine a_zret (pc := 44) rfl (by rfl) dX3_readNumbers_44 ?_
                      first | (rcases hs1 with b | b <;> first | exact absurd (b.1.symm.trans c_40) (by decide) | exact Or.inr ⟨rfl, fun q => b.2.1 (q.2).2, _, _, b.2.2⟩) | (exact Or.inr ⟨rfl, fun q => by have w := q.2; rcases hr1 with a | a <;> first | exact absurd (a.1.symm.trans c_32) (by decide) | exact a.2 w.1, _, _, rfl⟩) | (rcases hs0 with b | b <;> first | exact absurd (b.1.symm.trans c_40) (by decide) | exact Or.inr ⟨rfl, fun q => b.2.1 (q.1).2, _, _, b.2.2⟩) | (exact Or.inr ⟨rfl, fun q => by have w := q.1; rcases hr0 with a | a <;> first | exact absurd (a.1.symm.trans c_32) (by decide) | exact a.2 w.1, _, _, rfl⟩)
          · refine a_iconst (pc := 43) (v := 0) dX3_readNumbers_43 (by decide) ?_
            refine a_zret (pc := 44) rfl (by rfl) dX3_readNumbers_44 ?_
            first | (rcases hs1 with b | b <;> first | exact absurd (b.1.symm.trans c_40) (by decide) | exact Or.inr ⟨rfl, fun q => b.2.1 (q.2).2, _, _, b.2.2⟩) | (exact Or.inr ⟨rfl, fun q => by have w := q.2; rcases hr1 with a | a <;> first | exact absurd (a.1.symm.trans c_32) (by decide) | exact a.2 w.1, _, _, rfl⟩) | (rcases hs0 with b | b <;> first | exact absurd (b.1.symm.trans c_40) (by decide) | exact Or.inr ⟨rfl, fun q => b.2.1 (q.1).2, _, _, b.2.2⟩) | (exact Or.inr ⟨rfl, fun q => by have w := q.1; rcases hr0 with a | a <;> first | exact absurd (a.1.symm.trans c_32) (by decide) | exact a.2 w.1, _, _, rfl⟩)
      · exact absurd c_16 (by decide)

set_option maxHeartbeats 4000000 in
set_option maxRecDepth 100000 in
theorem c_X3_readNumbers3 {μ : Mem} {tx : Nat → Nat} {l p : Nat} {g : Nat → Int32} (hT : RT μ tx l) (hq0 : p ≤ l) : Con shC mX3_readNumbers [.ref 104, .int 3] (rdM μ p g) (fun r u => (r = 1 ∧ (nP tx l p 44 ∧ nP tx l (nE tx l p + 1) 44 ∧ nP tx l (nE tx l (nE tx l p + 1) + 1) 59) ∧ u = rdM μ (nE tx l (nE tx l (nE tx l p + 1) + 1) + 1) (upd (upd (upd g 0 (nI (nV tx l p))) 1 (nI (nV tx l (nE tx l p + 1)))) 2 (nI (nV tx l (nE tx l (nE tx l p + 1) + 1))))) ∨ (r = 0 ∧ ¬ (nP tx l p 44 ∧ nP tx l (nE tx l p + 1) 44 ∧ nP tx l (nE tx l (nE tx l p + 1) + 1) 59) ∧ ∃ p2 g2, u = rdM μ p2 g2)) := by
  have z1 : shC[1]? = some (101, 200, []) := rfl
  have r0 : shC[104]? = some (3, 5, [some 1, some 53, some 105, none, none]) := rfl
  have r1 : shC[105]? = some (100, 3, []) := rfl
  have hn := net_53
  obtain ⟨hn0, hn1, hn2, hnS⟩ := id hn
  obtain ⟨hE, hTx, hTX⟩ := id hT
  have hl200 := hTX.1
  refine Con.ofAW (al0 := [some (.ref 104), some (.int 3), none, none]) (by decide) rfl (Nat.le_of_ble_eq_true rfl) rfl ?_
  refine a_iconst (pc := 0) (v := 0) dX3_readNumbers_0 (by decide) ?_
  refine a_istore_n (pc := 1) (al' := [some (.ref _), some (.int _), some (.int _), none]) dX3_readNumbers_1 rfl (by decide) rfl rfl ?_
  refine a_iload_n (pc := 2) dX3_readNumbers_2 rfl rfl ?_
  refine a_iload_n (pc := 3) dX3_readNumbers_3 rfl rfl ?_
  refine a_icmp_ge (pc := 4) (tgt := 51) dX3_readNumbers_4 (by decide) (fun c_4 => ?_) (fun c_4 => ?_)
  · exact absurd c_4 (by decide)
  · refine a_iload_n (pc := 7) dX3_readNumbers_7 rfl rfl ?_
    refine a_iconst (pc := 8) (v := 3) dX3_readNumbers_8 (by decide) ?_
    refine a_icmp_ge (pc := 9) (tgt := 51) dX3_readNumbers_9 (by decide) (fun c_9 => ?_) (fun c_9 => ?_)
    · exact absurd c_9 (by decide)
    · refine a_iload_n (pc := 12) dX3_readNumbers_12 rfl rfl ?_
      refine a_iload_n (pc := 13) dX3_readNumbers_13 rfl rfl ?_
      refine a_iconst (pc := 14) (v := 1) dX3_readNumbers_14 (by decide) ?_
      refine a_isub (pc := 15) dX3_readNumbers_15 ?_
      refine a_top (y := 2) rfl ?_
      refine a_icmp_ne (pc := 16) (tgt := 24) dX3_readNumbers_16 (by decide) (fun c_16 => ?_) (fun c_16 => ?_)
      · refine a_bipush (pc := 24) (v := 44) dX3_readNumbers_24 (by decide) ?_
        refine a_istore_n (pc := 26) (al' := [some (.ref _), some (.int _), some (.int _), some (.int _)]) dX3_readNumbers_26 rfl (by decide) rfl rfl ?_
        refine a_aload_n (pc := 27) dX3_readNumbers_27 rfl rfl ?_
        refine a_iload_n (pc := 28) dX3_readNumbers_28 rfl rfl ?_
        refine a_callI1 (pc := 29) ck_X3_63 ⟨(Nat.le_of_ble_eq_true rfl), (Nat.le_of_ble_eq_true rfl)⟩ (by assumption) (by decide) (Nat.le_of_ble_eq_true rfl) dX3_readNumbers_29 rfl (c_X3_readNumber (k := 0) hT (by have := hq0; omega) (by decide)) ?_
        rintro r0 u ⟨hr0, rfl⟩
        refine a_if_eq (pc := 32) (tgt := 43) dX3_readNumbers_32 (by decide) (fun c_32 => ?_) (fun c_32 => ?_)
        · refine a_iconst (pc := 43) (v := 0) dX3_readNumbers_43 (by decide) ?_
          refine a_zret (pc := 44) rfl (by rfl) dX3_readNumbers_44 ?_
          first | (rcases hs2 with b | b <;> first | exact absurd (b.1.symm.trans c_40) (by decide) | exact Or.inr ⟨rfl, fun q => b.2.1 (q.2.2).2, _, _, b.2.2⟩) | (exact Or.inr ⟨rfl, fun q => by have w := q.2.2; rcases hr2 with a | a <;> first | exact absurd (a.1.symm.trans c_32) (by decide) | exact a.2 w.1, _, _, rfl⟩) | (rcases hs1 with b | b <;> first | exact absurd (b.1.symm.trans c_40) (by decide) | exact Or.inr ⟨rfl, fun q => b.2.1 (q.2.1).2, _, _, b.2.2⟩) | (exact Or.inr ⟨rfl, fun q => by have w := q.2.1; rcases hr1 with a | a <;> first | exact absurd (a.1.symm.trans c_32) (by decide) | exact a.2 w.1, _, _, rfl⟩) | (rcases hs0 with b | b <;> first | exact absurd (b.1.symm.trans c_40) (by decide) | exact Or.inr ⟨rfl, fun q => b.2.1 (q.1).2, _, _, b.2.2⟩) | (exact Or.inr ⟨rfl, fun q => by have w := q.1; rcases hr0 with a | a <;> first | exact absurd (a.1.symm.trans c_32) (by decide) | exact a.2 w.1, _, _, rfl⟩)
        · refine a_aload_n (pc := 35) dX3_readNumbers_35 rfl rfl ?_
          refine a_iload_n (pc := 36) dX3_readNumbers_36 rfl rfl ?_
          refine a_callI1 (pc := 37) ck_X3_66 ⟨(Nat.le_of_ble_eq_true rfl), (Nat.le_of_ble_eq_true rfl)⟩ (by assumption) (by decide) (Nat.le_of_ble_eq_true rfl) dX3_readNumbers_37 rfl (c_X3_readSign (c := 44) hT (nE_le (by have := hq0; omega)) (by decide)) ?_
          rintro s0 u hs0
          refine a_if_ne (pc := 40) (tgt := 45) dX3_readNumbers_40 (by decide) (fun c_40 => ?_) (fun c_40 => ?_)
          · obtain ⟨-, hw0, rfl⟩ := hs0.resolve_right (fun w => c_40 w.1)
            have hk0 : nP tx l p 44 := ⟨(hr0.resolve_right (fun w => c_32 w.1)).2, hw0⟩
            have hq1 : (nE tx l p + 1) ≤ l := hk0.2.1
            refine a_iinc (pc := 45) (v := 1) (al' := [some (.ref _), some (.int _), some (.int _), some (.int _)]) dX3_readNumbers_45 rfl (by decide) (by decide) rfl rfl ?_
            refine a_goto (pc := 48) (tgt := 2) dX3_readNumbers_48 (by decide) ?_
            refine a_iload_n (pc := 2) dX3_readNumbers_2 rfl rfl ?_
            refine a_iload_n (pc := 3) dX3_readNumbers_3 rfl rfl ?_
            refine a_icmp_ge (pc := 4) (tgt := 51) dX3_readNumbers_4 (by decide) (fun c_4 => ?_) (fun c_4 => ?_)
            · exact absurd c_4 (by decide)
            · refine a_iload_n (pc := 7) dX3_readNumbers_7 rfl rfl ?_
              refine a_iconst (pc := 8) (v := 3) dX3_readNumbers_8 (by decide) ?_
              refine a_icmp_ge (pc := 9) (tgt := 51) dX3_readNumbers_9 (by decide) (fun c_9 => ?_) (fun c_9 => ?_)
              · exact absurd c_9 (by decide)
              · refine a_iload_n (pc := 12) dX3_readNumbers_12 rfl rfl ?_
                refine a_iload_n (pc := 13) dX3_readNumbers_13 rfl rfl ?_
                refine a_iconst (pc := 14) (v := 1) dX3_readNumbers_14 (by decide) ?_
                refine a_isub (pc := 15) dX3_readNumbers_15 ?_
                refine a_top (y := 2) rfl ?_
                refine a_icmp_ne (pc := 16) (tgt := 24) dX3_readNumbers_16 (by decide) (fun c_16 => ?_) (fun c_16 => ?_)
                · refine a_bipush (pc := 24) (v := 44) dX3_readNumbers_24 (by decide) ?_
                  refine a_istore_n (pc := 26) (al' := [some (.ref _), some (.int _), some (.int _), some (.int _)]) dX3_readNumbers_26 rfl (by decide) rfl rfl ?_
                  refine a_aload_n (pc := 27) dX3_readNumbers_27 rfl rfl ?_
                  refine a_iload_n (pc := 28) dX3_readNumbers_28 rfl rfl ?_
                  refine a_callI1 (pc := 29) ck_X3_63 ⟨(Nat.le_of_ble_eq_true rfl), (Nat.le_of_ble_eq_true rfl)⟩ (by assumption) (by decide) (Nat.le_of_ble_eq_true rfl) dX3_readNumbers_29 rfl (c_X3_readNumber (k := 1) hT (by have := hq1; omega) (by decide)) ?_
                  rintro r1 u ⟨hr1, rfl⟩
                  refine a_if_eq (pc := 32) (tgt := 43) dX3_readNumbers_32 (by decide) (fun c_32 => ?_) (fun c_32 => ?_)
                  · refine a_iconst (pc := 43) (v := 0) dX3_readNumbers_43 (by decide) ?_
                    refine a_zret (pc := 44) rfl (by rfl) dX3_readNumbers_44 ?_
                    first | (rcases hs2 with b | b <;> first | exact absurd (b.1.symm.trans c_40) (by decide) | exact Or.inr ⟨rfl, fun q => b.2.1 (q.2.2).2, _, _, b.2.2⟩) | (exact Or.inr ⟨rfl, fun q => by have w := q.2.2; rcases hr2 with a | a <;> first | exact absurd (a.1.symm.trans c_32) (by decide) | exact a.2 w.1, _, _, rfl⟩) | (rcases hs1 with b | b <;> first | exact absurd (b.1.symm.trans c_40) (by decide) | exact Or.inr ⟨rfl, fun q => b.2.1 (q.2.1).2, _, _, b.2.2⟩) | (exact Or.inr ⟨rfl, fun q => by have w := q.2.1; rcases hr1 with a | a <;> first | exact absurd (a.1.symm.trans c_32) (by decide) | exact a.2 w.1, _, _, rfl⟩) | (rcases hs0 with b | b <;> first | exact absurd (b.1.symm.trans c_40) (by decide) | exact Or.inr ⟨rfl, fun q => b.2.1 (q.1).2, _, _, b.2.2⟩) | (exact Or.inr ⟨rfl, fun q => by have w := q.1; rcases hr0 with a | a <;> first | exact absurd (a.1.symm.trans c_32) (by decide) | exact a.2 w.1, _, _, rfl⟩)
                  · refine a_aload_n (pc := 35) dX3_readNumbers_35 rfl rfl ?_
                    refine a_iload_n (pc := 36) dX3_readNumbers_36 rfl rfl ?_
                    refine a_callI1 (pc := 37) ck_X3_66 ⟨(Nat.le_of_ble_eq_true rfl), (Nat.le_of_ble_eq_true rfl)⟩ (by assumption) (by decide) (Nat.le_of_ble_eq_true rfl) dX3_readNumbers_37 rfl (c_X3_readSign (c := 44) hT (nE_le (by have := hq1; omega)) (by decide)) ?_
                    rintro s1 u hs1
                    refine a_if_ne (pc := 40) (tgt := 45) dX3_readNumbers_40 (by decide) (fun c_40 => ?_) (fun c_40 => ?_)
                    · obtain ⟨-, hw1, rfl⟩ := hs1.resolve_right (fun w => c_40 w.1)
                      have hk1 : nP tx l (nE tx l p + 1) 44 := ⟨(hr1.resolve_right (fun w => c_32 w.1)).2, hw1⟩
                      have hq2 : (nE tx l (nE tx l p + 1) + 1) ≤ l := hk1.2.1
                      refine a_iinc (pc := 45) (v := 2) (al' := [some (.ref _), some (.int _), some (.int _), some (.int _)]) dX3_readNumbers_45 rfl (by decide) (by decide) rfl rfl ?_
                      refine a_goto (pc := 48) (tgt := 2) dX3_readNumbers_48 (by decide) ?_
                      refine a_iload_n (pc := 2) dX3_readNumbers_2 rfl rfl ?_
                      refine a_iload_n (pc := 3) dX3_readNumbers_3 rfl rfl ?_
                      refine a_icmp_ge (pc := 4) (tgt := 51) dX3_readNumbers_4 (by decide) (fun c_4 => ?_) (fun c_4 => ?_)
                      · exact absurd c_4 (by decide)
                      · refine a_iload_n (pc := 7) dX3_readNumbers_7 rfl rfl ?_
                        refine a_iconst (pc := 8) (v := 3) dX3_readNumbers_8 (by decide) ?_
                        refine a_icmp_ge (pc := 9) (tgt := 51) dX3_readNumbers_9 (by decide) (fun c_9 => ?_) (fun c_9 => ?_)
                        · exact absurd c_9 (by decide)
                        · refine a_iload_n (pc := 12) dX3_readNumbers_12 rfl rfl ?_
                          refine a_iload_n (pc := 13) dX3_readNumbers_13 rfl rfl ?_
                          refine a_iconst (pc := 14) (v := 1) dX3_readNumbers_14 (by decide) ?_
                          refine a_isub (pc := 15) dX3_readNumbers_15 ?_
                          refine a_top (y := 2) rfl ?_
                          refine a_icmp_ne (pc := 16) (tgt := 24) dX3_readNumbers_16 (by decide) (fun c_16 => ?_) (fun c_16 => ?_)
                          · exact absurd c_16 (by decide)
                          · refine a_bipush (pc := 19) (v := 59) dX3_readNumbers_19 (by decide) ?_
                            refine a_goto (pc := 21) (tgt := 26) dX3_readNumbers_21 (by decide) ?_
                            refine a_istore_n (pc := 26) (al' := [some (.ref _), some (.int _), some (.int _), some (.int _)]) dX3_readNumbers_26 rfl (by decide) rfl rfl ?_
                            refine a_aload_n (pc := 27) dX3_readNumbers_27 rfl rfl ?_
                            refine a_iload_n (pc := 28) dX3_readNumbers_28 rfl rfl ?_
                            refine a_callI1 (pc := 29) ck_X3_63 ⟨(Nat.le_of_ble_eq_true rfl), (Nat.le_of_ble_eq_true rfl)⟩ (by assumption) (by decide) (Nat.le_of_ble_eq_true rfl) dX3_readNumbers_29 rfl (c_X3_readNumber (k := 2) hT (by have := hq2; omega) (by decide)) ?_
                            rintro r2 u ⟨hr2, rfl⟩
                            refine a_if_eq (pc := 32) (tgt := 43) dX3_readNumbers_32 (by decide) (fun c_32 => ?_) (fun c_32 => ?_)
                            · refine a_iconst (pc := 43) (v := 0) dX3_readNumbers_43 (by decide) ?_
                              refine a_zret (pc := 44) rfl (by rfl) dX3_readNumbers_44 ?_
                              first | (rcases hs2 with b | b <;> first | exact absurd (b.1.symm.trans c_40) (by decide) | exact Or.inr ⟨rfl, fun q => b.2.1 (q.2.2).2, _, _, b.2.2⟩) | (exact Or.inr ⟨rfl, fun q => by have w := q.2.2; rcases hr2 with a | a <;> first | exact absurd (a.1.symm.trans c_32) (by decide) | exact a.2 w.1, _, _, rfl⟩) | (rcases hs1 with b | b <;> first | exact absurd (b.1.symm.trans c_40) (by decide) | exact Or.inr ⟨rfl, fun q => b.2.1 (q.2.1).2, _, _, b.2.2⟩) | (exact Or.inr ⟨rfl, fun q => by have w := q.2.1; rcases hr1 with a | a <;> first | exact absurd (a.1.symm.trans c_32) (by decide) | exact a.2 w.1, _, _, rfl⟩) | (rcases hs0 with b | b <;> first | exact absurd (b.1.symm.trans c_40) (by decide) | exact Or.inr ⟨rfl, fun q => b.2.1 (q.1).2, _, _, b.2.2⟩) | (exact Or.inr ⟨rfl, fun q => by have w := q.1; rcases hr0 with a | a <;> first | exact absurd (a.1.symm.trans c_32) (by decide) | exact a.2 w.1, _, _, rfl⟩)
                            · refine a_aload_n (pc := 35) dX3_readNumbers_35 rfl rfl ?_
                              refine a_iload_n (pc := 36) dX3_readNumbers_36 rfl rfl ?_
                              refine a_callI1 (pc := 37) ck_X3_66 ⟨(Nat.le_of_ble_eq_true rfl), (Nat.le_of_ble_eq_true rfl)⟩ (by assumption) (by decide) (Nat.le_of_ble_eq_true rfl) dX3_readNumbers_37 rfl (c_X3_readSign (c := 59) hT (nE_le (by have := hq2; omega)) (by decide)) ?_
                              rintro s2 u hs2
                              refine a_if_ne (pc := 40) (tgt := 45) dX3_readNumbers_40 (by decide) (fun c_40 => ?_) (fun c_40 => ?_)
                              · obtain ⟨-, hw2, rfl⟩ := hs2.resolve_right (fun w => c_40 w.1)
                                have hk2 : nP tx l (nE tx l (nE tx l p + 1) + 1) 59 := ⟨(hr2.resolve_right (fun w => c_32 w.1)).2, hw2⟩
                                have hq3 : (nE tx l (nE tx l (nE tx l p + 1) + 1) + 1) ≤ l := hk2.2.1
                                refine a_iinc (pc := 45) (v := 3) (al' := [some (.ref _), some (.int _), some (.int _), some (.int _)]) dX3_readNumbers_45 rfl (by decide) (by decide) rfl rfl ?_
                                refine a_goto (pc := 48) (tgt := 2) dX3_readNumbers_48 (by decide) ?_
                                refine a_iload_n (pc := 2) dX3_readNumbers_2 rfl rfl ?_
                                refine a_iload_n (pc := 3) dX3_readNumbers_3 rfl rfl ?_
                                refine a_icmp_ge (pc := 4) (tgt := 51) dX3_readNumbers_4 (by decide) (fun c_4 => ?_) (fun c_4 => ?_)
                                · refine a_iconst (pc := 51) (v := 1) dX3_readNumbers_51 (by decide) ?_
                                  refine a_zret (pc := 52) rfl (by rfl) dX3_readNumbers_52 ?_
                                  exact Or.inl ⟨rfl, ⟨hk0, hk1, hk2⟩, rfl⟩
                                · exact absurd c_4 (by decide)
                              · refine a_iconst (pc := 43) (v := 0) dX3_readNumbers_43 (by decide) ?_
                                refine a_zret (pc := 44) rfl (by rfl) dX3_readNumbers_44 ?_
                                first | (rcases hs2 with b | b <;> first | exact absurd (b.1.symm.trans c_40) (by decide) | exact Or.inr ⟨rfl, fun q => b.2.1 (q.2.2).2, _, _, b.2.2⟩) | (exact Or.inr ⟨rfl, fun q => by have w := q.2.2; rcases hr2 with a | a <;> first | exact absurd (a.1.symm.trans c_32) (by decide) | exact a.2 w.1, _, _, rfl⟩) | (rcases hs1 with b | b <;> first | exact absurd (b.1.symm.trans c_40) (by decide) | exact Or.inr ⟨rfl, fun q => b.2.1 (q.2.1).2, _, _, b.2.2⟩) | (exact Or.inr ⟨rfl, fun q => by have w := q.2.1; rcases hr1 with a | a <;> first | exact absurd (a.1.symm.trans c_32) (by decide) | exact a.2 w.1, _, _, rfl⟩) | (rcases hs0 with b | b <;> first | exact absurd (b.1.symm.trans c_40) (by decide) | exact Or.inr ⟨rfl, fun q => b.2.1 (q.1).2, _, _, b.2.2⟩) | (exact Or.inr ⟨rfl, fun q => by have w := q.1; rcases hr0 with a | a <;> first | exact absurd (a.1.symm.trans c_32) (by decide) | exact a.2 w.1, _, _, rfl⟩)
                    · refine a_iconst (pc := 43) (v := 0) dX3_readNumbers_43 (by decide) ?_
                      refine a_zret (pc := 44) rfl (by rfl) dX3_readNumbers_44 ?_
                      first | (rcases hs2 with b | b <;> first | exact absurd (b.1.symm.trans c_40) (by decide) | exact Or.inr ⟨rfl, fun q => b.2.1 (q.2.2).2, _, _, b.2.2⟩) | (exact Or.inr ⟨rfl, fun q => by have w := q.2.2; rcases hr2 with a | a <;> first | exact absurd (a.1.symm.trans c_32) (by decide) | exact a.2 w.1, _, _, rfl⟩) | (rcases hs1 with b | b <;> first | exact absurd (b.1.symm.trans c_40) (by decide) | exact Or.inr ⟨rfl, fun q => b.2.1 (q.2.1).2, _, _, b.2.2⟩) | (exact Or.inr ⟨rfl, fun q => by have w := q.2.1; rcases hr1 with a | a <;> first | exact absurd (a.1.symm.trans c_32) (by decide) | exact a.2 w.1, _, _, rfl⟩) | (rcases hs0 with b | b <;> first | exact absurd (b.1.symm.trans c_40) (by decide) | exact Or.inr ⟨rfl, fun q => b.2.1 (q.1).2, _, _, b.2.2⟩) | (exact Or.inr ⟨rfl, fun q => by have w := q.1; rcases hr0 with a | a <;> first | exact absurd (a.1.symm.trans c_32) (by decide) | exact a.2 w.1, _, _, rfl⟩)
                · exact absurd c_16 (by decide)
          · refine a_iconst (pc := 43) (v := 0) dX3_readNumbers_43 (by decide) ?_
            refine a_zret (pc := 44) rfl (by rfl) dX3_readNumbers_44 ?_
            first | (rcases hs2 with b | b <;> first | exact absurd (b.1.symm.trans c_40) (by decide) | exact Or.inr ⟨rfl, fun q => b.2.1 (q.2.2).2, _, _, b.2.2⟩) | (exact Or.inr ⟨rfl, fun q => by have w := q.2.2; rcases hr2 with a | a <;> first | exact absurd (a.1.symm.trans c_32) (by decide) | exact a.2 w.1, _, _, rfl⟩) | (rcases hs1 with b | b <;> first | exact absurd (b.1.symm.trans c_40) (by decide) | exact Or.inr ⟨rfl, fun q => b.2.1 (q.2.1).2, _, _, b.2.2⟩) | (exact Or.inr ⟨rfl, fun q => by have w := q.2.1; rcases hr1 with a | a <;> first | exact absurd (a.1.symm.trans c_32) (by decide) | exact a.2 w.1, _, _, rfl⟩) | (rcases hs0 with b | b <;> first | exact absurd (b.1.symm.trans c_40) (by decide) | exact Or.inr ⟨rfl, fun q => b.2.1 (q.1).2, _, _, b.2.2⟩) | (exact Or.inr ⟨rfl, fun q => by have w := q.1; rcases hr0 with a | a <;> first | exact absurd (a.1.symm.trans c_32) (by decide) | exact a.2 w.1, _, _, rfl⟩)
      · exact absurd c_16 (by decide)

