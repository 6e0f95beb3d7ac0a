/-! the class's slot as functions: sendAll, passSlots -/
noncomputable def ktsF (μ : Mem) (n x : Nat) : Int32 := if μ (x + 6) 0 ≠ 0 then μ (x + 6) 0 else if μ x 10 ≠ 0 then 3 else @ite _ (0 < μ x 3 ∨ ¬ mbP μ n x) (Classical.propDecidable _) 0 (if μ (x + 3) 0 < μ n 3 then 3 else 1)
theorem kts_eq {μ : Mem} {n x : Nat} {r : Int32} (h : ktsP μ n x r) : r = ktsF μ n x := by
  unfold ktsF
  rcases h with ⟨h1, h2⟩ | ⟨h1, h2, h3⟩ | ⟨h1, h2, h3, h4⟩ | ⟨h1, h2, h3, h4, h5⟩
  · rw [if_pos h1, h2]
  · rw [if_neg (fun q => q h1), if_pos h2, h3]
  · rw [if_neg (fun q => q h1), if_neg (fun q => q h2), if_pos h3, h4]
  · rw [if_neg (fun q => q h1), if_neg (fun q => q h2), if_neg (fun q => q.elim h3 (fun q => q h4)), h5]
theorem kts_ok (μ : Mem) (n x : Nat) : ktsP μ n x (ktsF μ n x) := by
  unfold ktsF ktsP
  by_cases h1 : μ (x + 6) 0 = 0
  · rw [if_neg (fun q => q h1)]
    by_cases h2 : μ x 10 = 0
    · rw [if_neg (fun q => q h2)]
      by_cases h3 : 0 < μ x 3 ∨ ¬ mbP μ n x
      · rw [if_pos h3]; exact Or.inr (Or.inr (Or.inl ⟨h1, h2, h3, rfl⟩))
      · rw [if_neg h3]; exact Or.inr (Or.inr (Or.inr ⟨h1, h2, fun q => h3 (Or.inl q), Classical.byContradiction fun q => h3 (Or.inr q), rfl⟩))
    · rw [if_pos h2]; exact Or.inr (Or.inl ⟨h1, h2, rfl⟩)
  · rw [if_pos h1]; exact Or.inl ⟨h1, rfl⟩
noncomputable def sdF1 (μ : Mem) (n x : Nat) : Mem := @ite _ (ktsF μ n x = 0 ∧ 0 < μ x 3 ∧ mbP μ n x) (Classical.propDecidable _) (up2 (sndF μ x (ktsF μ n x)) x 3 (μ x 3 - 1)) (sndF μ x (ktsF μ n x))
theorem sdF1_ok (μ : Mem) (n x : Nat) : sdC μ n x (ktsF μ n x) (sdF1 μ n x) := by
  refine ⟨kts_ok μ n x, ?_⟩
  unfold sdF1
  by_cases h : ktsF μ n x = 0 ∧ 0 < μ x 3 ∧ mbP μ n x
  · rw [if_pos h]; exact Or.inl ⟨h.1, h.2.1, h.2.2, rfl⟩
  · rw [if_neg h]; exact Or.inr ⟨h, rfl⟩
noncomputable def saM (μ : Mem) (n : Nat) : Nat → Mem
  | 0 => μ
  | k + 1 => sdF1 (saM μ n k) n (stA n k)
noncomputable def saK (μ : Mem) (n : Nat) : Nat → Int32
  | 0 => 0
  | k + 1 => if ktsF (saM μ n k) n (stA n k) = 0 then saK μ n k else saK μ n k ||| (1 <<< (nI k &&& 31))
theorem sdF1_ne {μ : Mem} {n x y : Nat} (h : y < x ∨ x + 7 < y) : sdF1 μ n x y = μ y := by
  unfold sdF1; split
  · rw [up2_ne (by omega), snd_ne (by omega) (by omega) (by omega)]
  · rw [snd_ne (by omega) (by omega) (by omega)]
theorem sdF1_in {μ : Mem} {n x y : Nat} (h0 : y ≠ x) (h6 : y ≠ x + 6) (h7 : y ≠ x + 7) : sdF1 μ n x y = μ y := by
  unfold sdF1; split
  · rw [up2_ne (by omega), snd_ne (by omega) (by omega) (by omega)]
  · rw [snd_ne (by omega) (by omega) (by omega)]
theorem saM_n {μ : Mem} {n x : Nat} (h : x < n + 3) : ∀ k, saM μ n k x = μ x
  | 0 => rfl
  | k + 1 => by
    show sdF1 (saM μ n k) n (stA n k) x = μ x
    rw [sdF1_ne (by unfold stA; omega), saM_n h k]
theorem i_le0 (x : Int32) : (x ≤ 0) = ¬ 0 < x := propext Int32.not_lt.symm
theorem lt_of_not_ge' {a b : Nat} (ha : a < 2 ^ 31) (hb : b < 2 ^ 31) (h : ¬ nI b ≤ nI a) : a < b := by
  rcases Nat.lt_or_ge a b with q | q
  · exact q
  · exact absurd (nI_le q (by omega)) h
theorem le_of_ge' {a b : Nat} (ha : a < 2 ^ 31) (hb : b < 2 ^ 31) (h : nI b ≤ nI a) : b ≤ a := (nI_leI hb ha).mp h
set_option maxHeartbeats 4000000 in
set_option maxRecDepth 100000 in
theorem l_X2_sendAll {μ : Mem} {n N : Nat} (hn : isNet n) (h0 : μ n 0 = nI N) (hN : N ≤ 6) {Q : Int32 → Mem → Prop} (hQ : Q (saK μ n N) (saM μ n N)) : ∀ d i : Nat, i + d = N → ∀ v3 v4 v5 : Option Value, AW shC mX2_sendAll 4 [some (.ref n), some (.int (saK μ n i)), some (.int (nI i)), v3, v4, v5] [] (saM μ n i) Q := by
  obtain ⟨hn0, hn1, hn2, hnS⟩ := id hn
  intro d
  induction d with
  | zero =>
    intro i hd v3 v4 v5
    refine a_iload_n (pc := 4) dX2_sendAll_4 rfl rfl ?_
    refine a_aload_n (pc := 5) dX2_sendAll_5 rfl rfl ?_
    refine a_geti (pc := 6) fl_X2_22 (by assumption) (by decide) (by rfl) dX2_sendAll_6 ?_
    refine a_top (y := nI N) (by first | exact h0 | (rw [saM_n (by omega)]; exact h0)) ?_
    refine a_icmp_ge (pc := 9) (tgt := 91) dX2_sendAll_9 (by decide) (fun c_9 => ?_) (fun c_9 => ?_)
    · have e : i = N := by omega
      subst e
      refine a_iload_n (pc := 91) dX2_sendAll_91 rfl rfl ?_
      exact a_iret (pc := 92) rfl dX2_sendAll_92 hQ
    · exact absurd (lt_of_not_ge' (by omega) (by omega) c_9) (by omega)
  | succ d ih =>
    intro i hd v3 v4 v5
    have ws := hnS i (by omega)
    have w0 : shC[(stA n i)]? = _ := ws.1
    have w1 : shC[(stA n i) + 1]? = some (0, 3, [none, some ((stA n i) + 2), some ((stA n i) + 3)]) := ws.2.1.1
    have w2 : shC[(stA n i) + 2]? = some (100, 6, []) := ws.2.1.2.1
    have w3 : shC[(stA n i) + 3]? = some (100, 6, []) := ws.2.1.2.2
    have w4 : shC[(stA n i) + 4]? = some (1, 2, [none, some ((stA n i) + 5)]) := ws.2.2.1.1
    have w5 : shC[(stA n i) + 5]? = some (100, 24, []) := ws.2.2.1.2
    have w6 : shC[(stA n i) + 6]? = some (4, 4, [none, none, none, none]) := ws.2.2.2.1
    have w7 : shC[(stA n i) + 7]? = some (4, 4, [none, none, none, none]) := ws.2.2.2.2
    refine a_iload_n (pc := 4) dX2_sendAll_4 rfl rfl ?_
    refine a_aload_n (pc := 5) dX2_sendAll_5 rfl rfl ?_
    refine a_geti (pc := 6) fl_X2_22 (by assumption) (by decide) (by rfl) dX2_sendAll_6 ?_
    refine a_top (y := nI N) (by first | exact h0 | (rw [saM_n (by omega)]; exact h0)) ?_
    refine a_icmp_ge (pc := 9) (tgt := 91) dX2_sendAll_9 (by decide) (fun c_9 => ?_) (fun c_9 => ?_)
    · exact absurd (le_of_ge' (by omega) (by omega) c_9) (by omega)
    · refine a_aload_n (pc := 12) dX2_sendAll_12 rfl rfl ?_
      refine a_getr (pc := 13) fl_X2_17 (by assumption) (by decide) (by rfl) dX2_sendAll_13 ?_
      refine a_iload_n (pc := 16) dX2_sendAll_16 rfl rfl ?_
      refine a_aald2 (pc := 17)  (by assumption) rfl (by omega) (by decide) (all_at (by omega)) dX2_sendAll_17 ?_
      refine a_astore_n (pc := 18) (al' := [some (.ref _), some (.int _), some (.int _), some (.ref _), _, _]) dX2_sendAll_18 rfl (by decide) rfl rfl ?_
      refine a_aload_n (pc := 19) dX2_sendAll_19 rfl rfl ?_
      refine a_aload_n (pc := 20) dX2_sendAll_20 rfl rfl ?_
      refine a_callI1 (pc := 21) ck_X2_137 ⟨(Nat.le_of_ble_eq_true rfl), (Nat.le_of_ble_eq_true rfl)⟩ (by assumption) (by decide) (Nat.le_of_ble_eq_true rfl) dX2_sendAll_21 rfl (c_X2_kindToSend hn ws) ?_
      rintro r u ⟨hr, rfl⟩
      have er := kts_eq hr
      subst er
      refine a_istore (pc := 24) (al' := [some (.ref _), some (.int _), some (.int _), some (.ref _), some (.int _), _]) dX2_sendAll_24 (by decide) rfl rfl ?_
      refine a_iload (pc := 26) dX2_sendAll_26 rfl ?_
      refine a_if_ne (pc := 28) (tgt := 50) dX2_sendAll_28 (by decide) (fun c_28 => ?_) (fun c_28 => ?_)
      · refine a_iconst (pc := 50) (v := 0) dX2_sendAll_50 (by decide) ?_
        refine a_istore (pc := 51) (al' := [some (.ref _), some (.int _), some (.int _), some (.ref _), some (.int _), some (.int _)]) dX2_sendAll_51 (by decide) rfl rfl ?_
        refine a_aload_n (pc := 53) dX2_sendAll_53 rfl rfl ?_
        refine a_iload (pc := 54) dX2_sendAll_54 rfl ?_
        refine a_callV1 (pc := 56) ck_X2_141 ⟨(Nat.le_of_ble_eq_true rfl), (Nat.le_of_ble_eq_true rfl)⟩ (by assumption) (by decide) (Nat.le_of_ble_eq_true rfl) dX2_sendAll_56 rfl (c_X5_send ws) ?_
        rintro u rfl
        refine a_iload (pc := 59) dX2_sendAll_59 rfl ?_
        refine a_if_eq (pc := 61) (tgt := 74) dX2_sendAll_61 (by decide) (fun c_61 => ?_) (fun c_61 => ?_)
        · refine a_iload (pc := 74) dX2_sendAll_74 rfl ?_
          refine a_if_eq (pc := 76) (tgt := 85) dX2_sendAll_76 (by decide) (fun c_76 => ?_) (fun c_76 => ?_)
          · refine a_iincN (pc := 85) (m := 1) (al' := [some (.ref _), some (.int _), some (.int _), some (.ref _), some (.int _), some (.int _)]) dX2_sendAll_85 rfl (by decide) rfl rfl ?_
            refine a_goto (pc := 88) (tgt := 4) dX2_sendAll_88 (by decide) ?_
            refine AW.cast (ih (i + 1) (by omega) (some (.ref (stA n i))) (some (.int (ktsF (saM μ n i) n (stA n i)))) (some (.int 0))) rfl ?_ rfl ?_
            · simp_all [saK, -Int32.not_lt, -Int32.not_le]
            · simp only [saM, sdF1]; simp_all [snd_k', up2_ap, i_le0, -Int32.not_lt, -Int32.not_le]
          · refine a_iload_n (pc := 79) dX2_sendAll_79 rfl rfl ?_
            refine a_iconst (pc := 80) (v := 1) dX2_sendAll_80 (by decide) ?_
            refine a_iload_n (pc := 81) dX2_sendAll_81 rfl rfl ?_
            refine a_ishl (pc := 82) dX2_sendAll_82 ?_
            refine a_ior (pc := 83) dX2_sendAll_83 ?_
            refine a_istore_n (pc := 84) (al' := [some (.ref _), some (.int _), some (.int _), some (.ref _), some (.int _), some (.int _)]) dX2_sendAll_84 rfl (by decide) rfl rfl ?_
            refine a_iincN (pc := 85) (m := 1) (al' := [some (.ref _), some (.int _), some (.int _), some (.ref _), some (.int _), some (.int _)]) dX2_sendAll_85 rfl (by decide) rfl rfl ?_
            refine a_goto (pc := 88) (tgt := 4) dX2_sendAll_88 (by decide) ?_
            refine AW.cast (ih (i + 1) (by omega) (some (.ref (stA n i))) (some (.int (ktsF (saM μ n i) n (stA n i)))) (some (.int 0))) rfl ?_ rfl ?_
            · simp_all [saK, -Int32.not_lt, -Int32.not_le]
            · simp only [saM, sdF1]; simp_all [snd_k', up2_ap, i_le0, -Int32.not_lt, -Int32.not_le]
        · exact absurd c_61 (by decide)
      · refine a_aload_n (pc := 31) dX2_sendAll_31 rfl rfl ?_
        refine a_geti (pc := 32) fl_X2_90 (by assumption) (by decide) (by rfl) dX2_sendAll_32 ?_
        refine a_if_le (pc := 35) (tgt := 50) dX2_sendAll_35 (by decide) (fun c_35 => ?_) (fun c_35 => ?_)
        · refine a_iconst (pc := 50) (v := 0) dX2_sendAll_50 (by decide) ?_
          refine a_istore (pc := 51) (al' := [some (.ref _), some (.int _), some (.int _), some (.ref _), some (.int _), some (.int _)]) dX2_sendAll_51 (by decide) rfl rfl ?_
          refine a_aload_n (pc := 53) dX2_sendAll_53 rfl rfl ?_
          refine a_iload (pc := 54) dX2_sendAll_54 rfl ?_
          refine a_callV1 (pc := 56) ck_X2_141 ⟨(Nat.le_of_ble_eq_true rfl), (Nat.le_of_ble_eq_true rfl)⟩ (by assumption) (by decide) (Nat.le_of_ble_eq_true rfl) dX2_sendAll_56 rfl (c_X5_send ws) ?_
          rintro u rfl
          refine a_iload (pc := 59) dX2_sendAll_59 rfl ?_
          refine a_if_eq (pc := 61) (tgt := 74) dX2_sendAll_61 (by decide) (fun c_61 => ?_) (fun c_61 => ?_)
          · refine a_iload (pc := 74) dX2_sendAll_74 rfl ?_
            refine a_if_eq (pc := 76) (tgt := 85) dX2_sendAll_76 (by decide) (fun c_76 => ?_) (fun c_76 => ?_)
            · refine a_iincN (pc := 85) (m := 1) (al' := [some (.ref _), some (.int _), some (.int _), some (.ref _), some (.int _), some (.int _)]) dX2_sendAll_85 rfl (by decide) rfl rfl ?_
              refine a_goto (pc := 88) (tgt := 4) dX2_sendAll_88 (by decide) ?_
              refine AW.cast (ih (i + 1) (by omega) (some (.ref (stA n i))) (some (.int (ktsF (saM μ n i) n (stA n i)))) (some (.int 0))) rfl ?_ rfl ?_
              · simp_all [saK, -Int32.not_lt, -Int32.not_le]
              · simp only [saM, sdF1]; simp_all [snd_k', up2_ap, i_le0, -Int32.not_lt, -Int32.not_le]
            · refine a_iload_n (pc := 79) dX2_sendAll_79 rfl rfl ?_
              refine a_iconst (pc := 80) (v := 1) dX2_sendAll_80 (by decide) ?_
              refine a_iload_n (pc := 81) dX2_sendAll_81 rfl rfl ?_
              refine a_ishl (pc := 82) dX2_sendAll_82 ?_
              refine a_ior (pc := 83) dX2_sendAll_83 ?_
              refine a_istore_n (pc := 84) (al' := [some (.ref _), some (.int _), some (.int _), some (.ref _), some (.int _), some (.int _)]) dX2_sendAll_84 rfl (by decide) rfl rfl ?_
              refine a_iincN (pc := 85) (m := 1) (al' := [some (.ref _), some (.int _), some (.int _), some (.ref _), some (.int _), some (.int _)]) dX2_sendAll_85 rfl (by decide) rfl rfl ?_
              refine a_goto (pc := 88) (tgt := 4) dX2_sendAll_88 (by decide) ?_
              refine AW.cast (ih (i + 1) (by omega) (some (.ref (stA n i))) (some (.int (ktsF (saM μ n i) n (stA n i)))) (some (.int 0))) rfl ?_ rfl ?_
              · simp_all [saK, -Int32.not_lt, -Int32.not_le]
              · simp only [saM, sdF1]; simp_all [snd_k', up2_ap, i_le0, -Int32.not_lt, -Int32.not_le]
          · exact absurd c_61 (by decide)
        · refine a_aload_n (pc := 38) dX2_sendAll_38 rfl rfl ?_
          refine a_aload_n (pc := 39) dX2_sendAll_39 rfl rfl ?_
          refine a_callI1 (pc := 40) ck_X2_119 ⟨(Nat.le_of_ble_eq_true rfl), (Nat.le_of_ble_eq_true rfl)⟩ (by assumption) (by decide) (Nat.le_of_ble_eq_true rfl) dX2_sendAll_40 rfl (c_X2_mayBegin hn ws) ?_
          rintro r u ⟨hmb, rfl⟩
          refine a_if_eq (pc := 43) (tgt := 50) dX2_sendAll_43 (by decide) (fun c_43 => ?_) (fun c_43 => ?_)
          · refine a_iconst (pc := 50) (v := 0) dX2_sendAll_50 (by decide) ?_
            refine a_istore (pc := 51) (al' := [some (.ref _), some (.int _), some (.int _), some (.ref _), some (.int _), some (.int _)]) dX2_sendAll_51 (by decide) rfl rfl ?_
            refine a_aload_n (pc := 53) dX2_sendAll_53 rfl rfl ?_
            refine a_iload (pc := 54) dX2_sendAll_54 rfl ?_
            refine a_callV1 (pc := 56) ck_X2_141 ⟨(Nat.le_of_ble_eq_true rfl), (Nat.le_of_ble_eq_true rfl)⟩ (by assumption) (by decide) (Nat.le_of_ble_eq_true rfl) dX2_sendAll_56 rfl (c_X5_send ws) ?_
            rintro u rfl
            refine a_iload (pc := 59) dX2_sendAll_59 rfl ?_
            refine a_if_eq (pc := 61) (tgt := 74) dX2_sendAll_61 (by decide) (fun c_61 => ?_) (fun c_61 => ?_)
            · refine a_iload (pc := 74) dX2_sendAll_74 rfl ?_
              refine a_if_eq (pc := 76) (tgt := 85) dX2_sendAll_76 (by decide) (fun c_76 => ?_) (fun c_76 => ?_)
              · refine a_iincN (pc := 85) (m := 1) (al' := [some (.ref _), some (.int _), some (.int _), some (.ref _), some (.int _), some (.int _)]) dX2_sendAll_85 rfl (by decide) rfl rfl ?_
                refine a_goto (pc := 88) (tgt := 4) dX2_sendAll_88 (by decide) ?_
                refine AW.cast (ih (i + 1) (by omega) (some (.ref (stA n i))) (some (.int (ktsF (saM μ n i) n (stA n i)))) (some (.int 0))) rfl ?_ rfl ?_
                · simp_all [saK, -Int32.not_lt, -Int32.not_le]
                · simp only [saM, sdF1]; simp_all [snd_k', up2_ap, i_le0, -Int32.not_lt, -Int32.not_le]
              · refine a_iload_n (pc := 79) dX2_sendAll_79 rfl rfl ?_
                refine a_iconst (pc := 80) (v := 1) dX2_sendAll_80 (by decide) ?_
                refine a_iload_n (pc := 81) dX2_sendAll_81 rfl rfl ?_
                refine a_ishl (pc := 82) dX2_sendAll_82 ?_
                refine a_ior (pc := 83) dX2_sendAll_83 ?_
                refine a_istore_n (pc := 84) (al' := [some (.ref _), some (.int _), some (.int _), some (.ref _), some (.int _), some (.int _)]) dX2_sendAll_84 rfl (by decide) rfl rfl ?_
                refine a_iincN (pc := 85) (m := 1) (al' := [some (.ref _), some (.int _), some (.int _), some (.ref _), some (.int _), some (.int _)]) dX2_sendAll_85 rfl (by decide) rfl rfl ?_
                refine a_goto (pc := 88) (tgt := 4) dX2_sendAll_88 (by decide) ?_
                refine AW.cast (ih (i + 1) (by omega) (some (.ref (stA n i))) (some (.int (ktsF (saM μ n i) n (stA n i)))) (some (.int 0))) rfl ?_ rfl ?_
                · simp_all [saK, -Int32.not_lt, -Int32.not_le]
                · simp only [saM, sdF1]; simp_all [snd_k', up2_ap, i_le0, -Int32.not_lt, -Int32.not_le]
            · exact absurd c_61 (by decide)
          · refine a_iconst (pc := 46) (v := 1) dX2_sendAll_46 (by decide) ?_
            refine a_goto (pc := 47) (tgt := 51) dX2_sendAll_47 (by decide) ?_
            refine a_istore (pc := 51) (al' := [some (.ref _), some (.int _), some (.int _), some (.ref _), some (.int _), some (.int _)]) dX2_sendAll_51 (by decide) rfl rfl ?_
            refine a_aload_n (pc := 53) dX2_sendAll_53 rfl rfl ?_
            refine a_iload (pc := 54) dX2_sendAll_54 rfl ?_
            refine a_callV1 (pc := 56) ck_X2_141 ⟨(Nat.le_of_ble_eq_true rfl), (Nat.le_of_ble_eq_true rfl)⟩ (by assumption) (by decide) (Nat.le_of_ble_eq_true rfl) dX2_sendAll_56 rfl (c_X5_send ws) ?_
            rintro u rfl
            refine a_iload (pc := 59) dX2_sendAll_59 rfl ?_
            refine a_if_eq (pc := 61) (tgt := 74) dX2_sendAll_61 (by decide) (fun c_61 => ?_) (fun c_61 => ?_)
            · exact absurd c_61 (by decide)
            · refine a_aload_n (pc := 64) dX2_sendAll_64 rfl rfl ?_
              refine a_dup (pc := 65) dX2_sendAll_65 rfl ?_
              refine a_geti (pc := 66) fl_X2_90 (by assumption) (by decide) (by rfl) dX2_sendAll_66 ?_
              refine a_iconst (pc := 69) (v := 1) dX2_sendAll_69 (by decide) ?_
              refine a_isub (pc := 70) dX2_sendAll_70 ?_
              refine a_puti (pc := 71) fp_X2_90 (by assumption) (by decide) (by rfl) dX2_sendAll_71 ?_
              refine a_iload (pc := 74) dX2_sendAll_74 rfl ?_
              refine a_if_eq (pc := 76) (tgt := 85) dX2_sendAll_76 (by decide) (fun c_76 => ?_) (fun c_76 => ?_)
              · refine a_iincN (pc := 85) (m := 1) (al' := [some (.ref _), some (.int _), some (.int _), some (.ref _), some (.int _), some (.int _)]) dX2_sendAll_85 rfl (by decide) rfl rfl ?_
                refine a_goto (pc := 88) (tgt := 4) dX2_sendAll_88 (by decide) ?_
                refine AW.cast (ih (i + 1) (by omega) (some (.ref (stA n i))) (some (.int (ktsF (saM μ n i) n (stA n i)))) (some (.int 1))) rfl ?_ rfl ?_
                · simp_all [saK, -Int32.not_lt, -Int32.not_le]
                · simp only [saM, sdF1]; simp_all [snd_k', up2_ap, i_le0, -Int32.not_lt, -Int32.not_le]
              · refine a_iload_n (pc := 79) dX2_sendAll_79 rfl rfl ?_
                refine a_iconst (pc := 80) (v := 1) dX2_sendAll_80 (by decide) ?_
                refine a_iload_n (pc := 81) dX2_sendAll_81 rfl rfl ?_
                refine a_ishl (pc := 82) dX2_sendAll_82 ?_
                refine a_ior (pc := 83) dX2_sendAll_83 ?_
                refine a_istore_n (pc := 84) (al' := [some (.ref _), some (.int _), some (.int _), some (.ref _), some (.int _), some (.int _)]) dX2_sendAll_84 rfl (by decide) rfl rfl ?_
                refine a_iincN (pc := 85) (m := 1) (al' := [some (.ref _), some (.int _), some (.int _), some (.ref _), some (.int _), some (.int _)]) dX2_sendAll_85 rfl (by decide) rfl rfl ?_
                refine a_goto (pc := 88) (tgt := 4) dX2_sendAll_88 (by decide) ?_
                refine AW.cast (ih (i + 1) (by omega) (some (.ref (stA n i))) (some (.int (ktsF (saM μ n i) n (stA n i)))) (some (.int 1))) rfl ?_ rfl ?_
                · simp_all [saK, -Int32.not_lt, -Int32.not_le]
                · simp only [saM, sdF1]; simp_all [snd_k', up2_ap, i_le0, -Int32.not_lt, -Int32.not_le]
set_option maxHeartbeats 4000000 in
set_option maxRecDepth 100000 in
theorem c_X2_sendAll {μ : Mem} {n N : Nat} (hn : isNet n) (h0 : μ n 0 = nI N) (hN : N ≤ 6) : Con shC mX2_sendAll [.ref n] μ (fun r u => r = saK μ n N ∧ u = saM μ n N) := by
  refine Con.ofAW (al0 := [some (.ref n), none, none, none, none, none]) (by decide) rfl (Nat.le_of_ble_eq_true rfl) rfl ?_
  refine a_iconst (pc := 0) (v := 0) dX2_sendAll_0 (by decide) ?_
  refine a_istore_n (pc := 1) (al' := [some (.ref _), some (.int _), none, none, none, none]) dX2_sendAll_1 rfl (by decide) rfl rfl ?_
  refine a_iconst (pc := 2) (v := 0) dX2_sendAll_2 (by decide) ?_
  refine a_istore_n (pc := 3) (al' := [some (.ref _), some (.int _), some (.int _), none, none, none]) dX2_sendAll_3 rfl (by decide) rfl rfl ?_
  exact l_X2_sendAll hn h0 hN ⟨rfl, rfl⟩ N 0 (by omega) _ _ _

/-- listen, with its numbers read off the memory -/
def lsn1 (μ : Mem) (n i : Nat) : Mem := lsnF μ n i (μ n 7 &&& μ (stA n i) 0).toNatClampNeg ((μ (stA n i + 1) 0).toNatClampNeg - 1) (μ (stA n i) 2).toNatClampNeg (μ (stA n i + 4) 0).toNatClampNeg
def PreL (μ : Mem) (n i : Nat) : Prop := (∃ m, m < 64 ∧ μ n 7 &&& μ (stA n i) 0 = nI m ∧ (μ (stA n i + 7) 0 = 0 → ((lowF (nI m)).toNatClampNeg ≠ i ∨ m = 0))) ∧ (¬ μ (stA n i) 9 = 0 → ∃ s, s < 6 ∧ μ (stA n i + 1) 0 = nI (s + 1)) ∧ (∃ t, μ (stA n i) 2 = nI t ∧ t < 9) ∧ (∃ h, μ (stA n i + 4) 0 = nI h ∧ h ≤ 6)
theorem c_X2_listen1 {μ : Mem} {n i : Nat} (hn : isNet n) (hi : i < 6) (h : PreL μ n i) : Con shC mX2_listen [.ref n, .int (nI i)] μ (fun _ u => u = lsn1 μ n i) := by
  obtain ⟨⟨m, m1, m2, m3⟩, hs, ⟨t, t1, t2⟩, ⟨hd, q1, q2⟩⟩ := h
  have e : lsn1 μ n i = lsnF μ n i m ((μ (stA n i + 1) 0).toNatClampNeg - 1) t hd := by
    unfold lsn1; rw [m2, t1, q1, nI_clamp (by omega), nI_clamp (by omega), nI_clamp (by omega)]
  rw [e]
  refine c_X2_listen hn hi m1 m2 m3 (fun q => ?_) t1 t2 q1 q2
  obtain ⟨s, s1, s2⟩ := hs q
  rw [s2, nI_clamp (by omega)]
  exact ⟨rfl, by omega⟩
theorem lsnF_ne {μ : Mem} {n i m s t h x : Nat} (hx : x < n + 1 ∨ (n + 1 < x ∧ x < stA n i) ∨ stA n i + 6 < x) : lsnF μ n i m s t h x = μ x := by
  have hst : n + 1 < stA n i := by unfold stA; omega
  have hg : ∀ j, (gfF μ n i j h).2 x = μ x := by
    intro j; unfold gfF; split
    · exact takF_ne (by omega) (by omega)
    · exact ovhF_ne (by omega) (by omega) (by omega)
  unfold lsnF
  split
  · unfold awtF; split
    · exact up2_ne (by omega)
    · split
      · exact up2_ne (by omega)
      · rfl
  · split
    · split
      · rw [dwF_ne (by omega), fl_x (by omega) (by omega) (by omega) (by omega), up2_ne (by omega)]
      · exact up2_ne (by omega)
    · split
      · split
        · rw [dwF_ne (by omega), fl_x (by omega) (by omega) (by omega) (by omega)]
        · rfl
      · split
        · rw [dwF_ne (by omega), cls_x (by omega) (by omega) (by omega) (by omega)]
          unfold tsF
          rw [up2_ne (by omega), up2_ne (by omega), hg]
        · split
          · rw [dwF_ne (by omega), fl_x (by omega) (by omega) (by omega) (by omega), hg]
          · exact hg _
def lsM (μ : Mem) (n : Nat) : Nat → Mem
  | 0 => μ
  | k + 1 => lsn1 (lsM μ n k) n k
theorem lsM_n {μ : Mem} {n x : Nat} (h : x < n + 1) : ∀ k, lsM μ n k x = μ x
  | 0 => rfl
  | k + 1 => by
    show lsn1 (lsM μ n k) n k x = μ x
    unfold lsn1
    rw [lsnF_ne (Or.inl h), lsM_n h k]
noncomputable def sltM (μ : Mem) (n N : Nat) : Mem := up2 (up2 (saM μ n N) n 6 (saM μ n N n 6 + 1)) n 7 (saK μ n N)
noncomputable def sltF (μ : Mem) (n N : Nat) : Mem := lsM (sltM μ n N) n N
noncomputable def pasF (μ : Mem) (n N : Nat) : Nat → Mem
  | 0 => μ
  | k + 1 => sltF (pasF μ n N k) n N
theorem sltM_0 {μ : Mem} {n N : Nat} : sltM μ n N n 0 = μ n 0 := by
  unfold sltM; rw [up2_k (by decide), up2_k (by decide), saM_n (by omega)]
theorem sltF_0 {μ : Mem} {n N : Nat} : sltF μ n N n 0 = μ n 0 := by
  unfold sltF; rw [lsM_n (by omega), sltM_0]
theorem pasF_0 {μ : Mem} {n N : Nat} : ∀ k, pasF μ n N k n 0 = μ n 0
  | 0 => rfl
  | k + 1 => by
    show sltF (pasF μ n N k) n N n 0 = μ n 0
    rw [sltF_0, pasF_0 k]
set_option maxHeartbeats 4000000 in
set_option maxRecDepth 100000 in
theorem l_X2_pass2 {μ : Mem} {n N : Nat} {a b c : Int32} (hn : isNet n) (h0 : μ n 0 = nI N) (hN : N ≤ 6) (hp : ∀ k, k < N → PreL (lsM μ n k) n k) {Q : Int32 → Mem → Prop} (hQ : AW shC mX2_passSlots 51 [some (.ref n), some (.int a), some (.int b), some (.int c), some (.int (nI N))] [] (lsM μ n N) Q) : ∀ d i : Nat, i + d = N → AW shC mX2_passSlots 30 [some (.ref n), some (.int a), some (.int b), some (.int c), some (.int (nI i))] [] (lsM μ n i) Q := by
  obtain ⟨hn0, hn1, hn2, hnS⟩ := id hn
  intro d
  induction d with
  | zero =>
    intro i hd
    refine a_iload (pc := 30) dX2_passSlots_30 rfl ?_
    refine a_aload_n (pc := 32) dX2_passSlots_32 rfl rfl ?_
    refine a_geti (pc := 33) fl_X2_22 (by assumption) (by decide) (by rfl) dX2_passSlots_33 ?_
    refine a_top (y := nI N) (by rw [lsM_n (by omega)]; exact h0) ?_
    refine a_icmp_ge (pc := 36) (tgt := 51) dX2_passSlots_36 (by decide) (fun c_36 => ?_) (fun c_36 => ?_)
    · have e : i = N := by omega
      subst e
      exact hQ
    · exact absurd (lt_of_not_ge' (by omega) (by omega) c_36) (by omega)
  | succ d ih =>
    intro i hd
    refine a_iload (pc := 30) dX2_passSlots_30 rfl ?_
    refine a_aload_n (pc := 32) dX2_passSlots_32 rfl rfl ?_
    refine a_geti (pc := 33) fl_X2_22 (by assumption) (by decide) (by rfl) dX2_passSlots_33 ?_
    refine a_top (y := nI N) (by rw [lsM_n (by omega)]; exact h0) ?_
    refine a_icmp_ge (pc := 36) (tgt := 51) dX2_passSlots_36 (by decide) (fun c_36 => ?_) (fun c_36 => ?_)
    · exact absurd (le_of_ge' (by omega) (by omega) c_36) (by omega)
    · refine a_aload_n (pc := 39) dX2_passSlots_39 rfl rfl ?_
      refine a_iload (pc := 40) dX2_passSlots_40 rfl ?_
      refine a_callV1 (pc := 42) ck_X2_134 ⟨(Nat.le_of_ble_eq_true rfl), (Nat.le_of_ble_eq_true rfl)⟩ (by assumption) (by decide) (Nat.le_of_ble_eq_true rfl) dX2_passSlots_42 rfl (c_X2_listen1 hn (by omega) (hp i (by omega))) ?_
      rintro u rfl
      refine a_iincN (pc := 45) (m := 1) (al' := [some (.ref _), some (.int _), some (.int _), some (.int _), some (.int _)]) dX2_passSlots_45 rfl (by decide) rfl rfl ?_
      refine a_goto (pc := 48) (tgt := 30) dX2_passSlots_48 (by decide) ?_
      exact ih (i + 1) (by omega)
set_option maxHeartbeats 4000000 in
set_option maxRecDepth 100000 in
theorem l_X2_pass {μ : Mem} {n N q : Nat} (hn : isNet n) (h0 : μ n 0 = nI N) (hN : N ≤ 6) (hq : q < 1000) (hp : ∀ j, j < q → ∀ k, k < N → PreL (lsM (sltM (pasF μ n N j) n N) n k) n k) {Q : Int32 → Mem → Prop} (hQ : Q 0 (pasF μ n N q)) : ∀ d i : Nat, i + d = q → ∀ v3 v4 : Option Value, AW shC mX2_passSlots 2 [some (.ref n), some (.int (nI q)), some (.int (nI i)), v3, v4] [] (pasF μ n N i) Q := by
  obtain ⟨hn0, hn1, hn2, hnS⟩ := id hn
  intro d
  induction d with
  | zero =>
    intro i hd v3 v4
    refine a_iload_n (pc := 2) dX2_passSlots_2 rfl rfl ?_
    refine a_iload_n (pc := 3) dX2_passSlots_3 rfl rfl ?_
    refine a_icmp_ge (pc := 4) (tgt := 57) dX2_passSlots_4 (by decide) (fun c_4 => ?_) (fun c_4 => ?_)
    · have e : i = q := by omega
      subst e
      exact a_vret (pc := 57) rfl dX2_passSlots_57 hQ
    · exact absurd (lt_of_not_ge' (by omega) (by omega) c_4) (by omega)
  | succ d ih =>
    intro i hd v3 v4
    refine a_iload_n (pc := 2) dX2_passSlots_2 rfl rfl ?_
    refine a_iload_n (pc := 3) dX2_passSlots_3 rfl rfl ?_
    refine a_icmp_ge (pc := 4) (tgt := 57) dX2_passSlots_4 (by decide) (fun c_4 => ?_) (fun c_4 => ?_)
    · exact absurd (le_of_ge' (by omega) (by omega) c_4) (by omega)
    · refine a_aload_n (pc := 7) dX2_passSlots_7 rfl rfl ?_
      refine a_callI0 (pc := 8) ck_X2_130 ⟨(Nat.le_of_ble_eq_true rfl), (Nat.le_of_ble_eq_true rfl)⟩ (by assumption) (by decide) (Nat.le_of_ble_eq_true rfl) dX2_passSlots_8 rfl (c_X2_sendAll (N := N) hn (by rw [pasF_0]; exact h0) hN) ?_
      rintro r u ⟨rfl, rfl⟩
      refine a_istore_n (pc := 11) (al' := [some (.ref _), some (.int _), some (.int _), some (.int _), _]) dX2_passSlots_11 rfl (by decide) rfl rfl ?_
      refine a_aload_n (pc := 12) dX2_passSlots_12 rfl rfl ?_
      refine a_dup (pc := 13) dX2_passSlots_13 rfl ?_
      refine a_geti (pc := 14) fl_X2_41 (by assumption) (by decide) (by rfl) dX2_passSlots_14 ?_
      refine a_iconst (pc := 17) (v := 1) dX2_passSlots_17 (by decide) ?_
      refine a_iadd (pc := 18) dX2_passSlots_18 ?_
      refine a_puti (pc := 19) fp_X2_41 (by assumption) (by decide) (by rfl) dX2_passSlots_19 ?_
      refine a_aload_n (pc := 22) dX2_passSlots_22 rfl rfl ?_
      refine a_iload_n (pc := 23) dX2_passSlots_23 rfl rfl ?_
      refine a_puti (pc := 24) fp_X2_44 (by assumption) (by decide) (by rfl) dX2_passSlots_24 ?_
      refine a_iconst (pc := 27) (v := 0) dX2_passSlots_27 (by decide) ?_
      refine a_istore (pc := 28) (al' := [some (.ref _), some (.int _), some (.int _), some (.int _), some (.int _)]) dX2_passSlots_28 (by decide) rfl rfl ?_
      refine l_X2_pass2 (μ := sltM (pasF μ n N i) n N) (N := N) hn (by rw [sltM_0, pasF_0]; exact h0) hN (hp i (by omega)) ?_ N 0 (by omega)
      refine a_iincN (pc := 51) (m := 1) (al' := [some (.ref _), some (.int _), some (.int _), some (.int _), some (.int _)]) dX2_passSlots_51 rfl (by decide) rfl rfl ?_
      refine a_goto (pc := 54) (tgt := 2) dX2_passSlots_54 (by decide) ?_
      exact ih (i + 1) (by omega) _ _
set_option maxHeartbeats 4000000 in
set_option maxRecDepth 100000 in
theorem c_X2_passSlots {μ : Mem} {n N q : Nat} (hn : isNet n) (h0 : μ n 0 = nI N) (hN : N ≤ 6) (hq : q < 1000) (hp : ∀ j, j < q → ∀ k, k < N → PreL (lsM (sltM (pasF μ n N j) n N) n k) n k) : Con shC mX2_passSlots [.ref n, .int (nI q)] μ (fun _ u => u = pasF μ n N q) := by
  refine Con.ofAW (al0 := [some (.ref n), some (.int (nI q)), none, none, none]) (by decide) rfl (Nat.le_of_ble_eq_true rfl) rfl ?_
  refine a_iconst (pc := 0) (v := 0) dX2_passSlots_0 (by decide) ?_
  refine a_istore_n (pc := 1) (al' := [some (.ref _), some (.int _), some (.int _), none, none]) dX2_passSlots_1 rfl (by decide) rfl rfl ?_
  exact l_X2_pass hn h0 hN hq hp rfl q 0 (by omega) _ _

