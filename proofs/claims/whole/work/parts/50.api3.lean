/-! the calls that only look agree -/
theorem API.eq {mc mr : Mt} {vs : List Value} {μ ν : Mem} {D : Nat} {a b : Int32} (hG : GR μ ν D) (h1 : Con shC mc (.ref 0 :: vs) μ (fun r u => r = a ∧ μ = u)) (h2 : Con shM mr (.ref 0 :: vs) ν (fun r v => r = b ∧ ν = v)) (e : a = b) : API mc mr vs μ ν D := by
  subst e; exact API.same hG h1 h2
theorem bit_tb {a j : Nat} (ha : a < 64) (hj : j < 6) : (nI a >>> (nI j &&& 31) &&& 1 = 1) ↔ a.testBit j = true := by
  have : ∀ a, a < 64 → ∀ j, j < 6 → ((nI a >>> (nI j &&& 31) &&& 1 = 1) ↔ a.testBit j = true) := by decide +kernel
  exact this a ha j hj
theorem near_sym {N i j a b : Nat} {w : Int32} (hi : i < N) (hj : j < N) (hN : N ≤ 6) (ha : a < 64) (hb : b < 64) (h : a.testBit j = b.testBit i) : nearF (nI a) (nI b) (nI j) = w ↔ nearF (nI b) (nI a) (nI i) = w := by
  unfold nearF
  rw [Int32.and_comm (nI b) (nI a)]
  by_cases q : a.testBit j = true
  · rw [if_pos ((bit_tb ha (by omega)).mpr q), if_pos ((bit_tb hb (by omega)).mpr (h.symm.trans q))]
  · rw [if_neg (fun r => q ((bit_tb ha (by omega)).mp r)), if_neg (fun r => q (h.trans ((bit_tb hb (by omega)).mp r)))]
theorem api_station {μ ν : Mem} {D : Nat} (i w : Int32) (hG : GR μ ν D) : API mX6_station mX7_station [.int i, .int w] μ ν D := by
  obtain ⟨N, t, hNR, ht, hP, hT, hB⟩ := id hG
  obtain ⟨⟨c0, c0', hN2, hN6, ⟨cl, cl1, cl2, cl3⟩, ⟨cm, cm1, cm2, cm3⟩, c3, ⟨cr, cr1, cr2, cr3⟩⟩, ⟨z, z1, z2, z3⟩, h6, h6', h7, hTK, ⟨hm, hH, hsym⟩, hR⟩ := id hNR.1
  simp only [Nat.zero_add] at z2 h6' h7 hH hR
  by_cases hs : stnP i N
  · obtain ⟨i, hi, rfl⟩ := id hs
    by_cases hw : ¬ w < 0 ∧ ¬ 11 < w
    · obtain ⟨j, hj, rfl⟩ := in_of (K := 11) (n := 11) rfl hw
      obtain ⟨⟨⟨a1, a2, a3, a4, a5, a6, a7, a8, a9, a10, a11⟩, ⟨w, w1, w2⟩, ⟨tt, t1, t2⟩, ⟨kk, k1, k2⟩, ⟨s, s1, s2, s3, s4, s5⟩, ⟨hd, q1, q2, q3⟩, b4⟩, hA, hO, hPA, h5⟩ := id (hR i hi)
      rcases (show j = 0 ∨ j = 1 ∨ j = 2 ∨ j = 3 ∨ j = 4 ∨ j = 5 ∨ j = 6 ∨ j = 7 ∨ j = 8 ∨ j = 9 ∨ j = 10 ∨ j = 11 by omega) with rfl | rfl | rfl | rfl | rfl | rfl | rfl | rfl | rfl | rfl | rfl | rfl
      · exact API.eq hG (c_X6_station0 c0 hN6 hi) (c_X7_station0 c0' hN6 hi) a8
      · exact API.eq hG (c_X6_station1 c0 hN6 hi) (c_X7_station1 c0' hN6 hi) a1
      · exact API.eq hG (c_X6_station2 c0 hN6 hi) (c_X7_station2 c0' hN6 hi) a2
      · exact API.eq hG (c_X6_station3 c0 hN6 hi) (c_X7_station3 c0' hN6 hi) (by rw [← a8]; by_cases q : μ (stA 2 i + 1) 0 = 0 <;> simp only [q, if_true, if_false]; exact (s4 (Nat.pos_of_ne_zero (fun e => q (by rw [s1, e]; rfl)))).1)
      · exact API.eq hG (c_X6_station4 c0 hN6 hi) (c_X7_station4 c0' hN6 hi) a3
      · exact API.eq hG (c_X6_station5 c0 hN6 hi) (c_X7_station5 c0' hN6 hi) a4
      · exact API.eq hG (c_X6_station6 c0 hN6 hi) (c_X7_station6 c0' hN6 hi) a5
      · exact API.eq hG (c_X6_station7 c0 hN6 hi) (c_X7_station7 c0' hN6 hi) a6
      · exact API.eq hG (c_X6_station8 c0 hN6 hi) (c_X7_station8 c0' hN6 hi) a7
      · refine API.of ⟨ktsF μ 2 (stA 2 i), _, _, c_X6_station9 c0 hN6 hi, Con.mono (c_X7_station9 c0' hN6 hi) (fun r u h => ⟨?_, h.2⟩), ?_⟩
        · have hw := h.1
          rw [h6', show nI t + 1 = nI (t + 1) from nI_add t 1, ← c3] at hw
          exact (send_rel (b := 0) (by omega) h6 (by simpa using h7) (by rw [Nat.zero_add]; exact (hH i hi).2.1.trans (hH i hi).2.2.symm) rfl (by rw [Nat.zero_add]; exact hR i hi) (sdF1_ok μ 2 (stA 2 i)) hw (sdsF_ok _ _ _ _ _ _)).1.symm
        · rintro u v rfl hv
          exact hG.ref (fun x hx => hv x (by omega))
      · exact API.eq hG (c_X6_station10 c0 hN6 hi) (c_X7_station10 c0' hN6 hi) ((hH i hi).2.1.trans (hH i hi).2.2.symm)
      · exact API.eq hG (c_X6_station11 c0 hN6 hi) (c_X7_station11 c0' hN6 hi) (by
          rw [h6']
          rcases hA with q | q | q
          · rw [if_pos q.1, if_neg (fun r => r.1 (by rw [q.2]; decide))]
          · rw [if_neg (by rw [q.1]; decide), if_pos ⟨by rw [q.2.1]; decide, by rw [q.2.2.1, ← nI_add]; rfl⟩]
          · rw [if_neg (by rw [q.1]; decide), if_pos ⟨by rw [q.2.1]; decide, by rw [q.2.2.1, ← nI_add]; rfl⟩])
    · exact API.same hG (c_X6_stationO c0 hN6 hi hw) (c_X7_stationX (j := 0) (k := 0) c0' hN6 (by omega) (fun q => hw q.2))
  · exact API.same hG (c_X6_stationX (j := 0) (k := 0) c0 hN6 hs) (c_X7_stationX (j := 0) (k := 0) c0' hN6 (by omega) (fun q => hs q.1))
theorem api_letterOf {μ ν : Mem} {D : Nat} (i k w : Int32) (hG : GR μ ν D) : API mX6_letterOf mX7_letterOf [.int i, .int k, .int w] μ ν D := by
  obtain ⟨N, t, hNR, ht, hP, hT, hB⟩ := id hG
  obtain ⟨⟨c0, c0', hN2, hN6, ⟨cl, cl1, cl2, cl3⟩, ⟨cm, cm1, cm2, cm3⟩, c3, ⟨cr, cr1, cr2, cr3⟩⟩, ⟨z, z1, z2, z3⟩, h6, h6', h7, hTK, ⟨hm, hH, hsym⟩, hR⟩ := id hNR.1
  simp only [Nat.zero_add] at z2 h6' h7 hH hR
  by_cases hs : stnP i N ∧ ¬ k < 0 ∧ ¬ w < 0 ∧ ¬ 3 < w
  · obtain ⟨⟨i, hi, rfl⟩, hk, hw⟩ := hs
    obtain ⟨k, kk, rfl⟩ := nI_of hk
    obtain ⟨j, hj, rfl⟩ := in_of (K := 3) (n := 3) rfl hw
    obtain ⟨⟨⟨a1, a2, a3, a4, a5, a6, a7, a8, a9, a10, a11⟩, ⟨w, w1, w2⟩, ⟨tt, t1, t2⟩, ⟨kd, k1, k2⟩, ⟨s, s1, s2, s3, s4, s5⟩, ⟨hd, q1, q2, q3⟩, b4⟩, hA, hO, hPA, h5⟩ := id (hR i hi)
    rcases Nat.lt_or_ge k s with q | q
    · have e := s3 k q
      rcases (show j = 0 ∨ j = 1 ∨ j = 2 ∨ j = 3 by omega) with rfl | rfl | rfl | rfl
      · exact API.eq hG (c_X6_letterOf0 c0 hN6 hi kk s1 s2 q) (c_X7_letterOf0 c0' hN6 hi kk (a8.symm.trans s1) s2 q) (e.1)
      · exact API.eq hG (c_X6_letterOf1 c0 hN6 hi kk s1 s2 q) (c_X7_letterOf1 c0' hN6 hi kk (a8.symm.trans s1) s2 q) (e.2)
      · exact API.eq hG (c_X6_letterOf2 c0 hN6 hi kk s1 s2 q) (c_X7_letterOf2 c0' hN6 hi kk (a8.symm.trans s1) s2 q) (by rw [← e.2, c3])
      · exact API.eq hG (c_X6_letterOf3 c0 hN6 hi kk s1 s2 q) (c_X7_letterOf3 c0' hN6 hi kk (a8.symm.trans s1) s2 q) (by rw [a9])
    · exact API.same hG (c_X6_letterOfS c0 hN6 hi kk hj s1 s2 q) (c_X7_letterOfS c0' hN6 hi kk hj (a8.symm.trans s1) s2 q)
  · exact API.same hG (c_X6_letterOfX (j := 0) c0 hN6 hs) (c_X7_letterOfX (j := 0) c0' hN6 (by omega) hs)
theorem api_overheard {μ ν : Mem} {D : Nat} (i k w : Int32) (hG : GR μ ν D) : API mX6_overheard mX7_overheard [.int i, .int k, .int w] μ ν D := by
  obtain ⟨N, t, hNR, ht, hP, hT, hB⟩ := id hG
  obtain ⟨⟨c0, c0', hN2, hN6, ⟨cl, cl1, cl2, cl3⟩, ⟨cm, cm1, cm2, cm3⟩, c3, ⟨cr, cr1, cr2, cr3⟩⟩, ⟨z, z1, z2, z3⟩, h6, h6', h7, hTK, ⟨hm, hH, hsym⟩, hR⟩ := id hNR.1
  simp only [Nat.zero_add] at z2 h6' h7 hH hR
  by_cases hs : stnP i N ∧ ¬ k < 0 ∧ ¬ w < 0 ∧ ¬ 3 < w
  · obtain ⟨⟨i, hi, rfl⟩, hk, hw⟩ := hs
    obtain ⟨k, kk, rfl⟩ := nI_of hk
    obtain ⟨j, hj, rfl⟩ := in_of (K := 3) (n := 3) rfl hw
    obtain ⟨⟨⟨a1, a2, a3, a4, a5, a6, a7, a8, a9, a10, a11⟩, ⟨w, w1, w2⟩, ⟨tt, t1, t2⟩, ⟨kd, k1, k2⟩, ⟨s, s1, s2, s3, s4, s5⟩, ⟨hd, q1, q2, q3⟩, b4⟩, hA, hO, hPA, h5⟩ := id (hR i hi)
    refine API.eq hG (c_X6_overheard c0 hN6 hi kk hj q1 q2) (c_X7_overheard c0' hN6 hi kk hj (a10.symm.trans q1) q2) ?_
    by_cases q : k < hd
    · rw [if_pos q, if_pos q]; exact q3 (4 * k + j) (by omega)
    · rw [if_neg q, if_neg q]
  · exact API.same hG (c_X6_overheardX (j := 0) c0 hN6 hs) (c_X7_overheardX (j := 0) c0' hN6 (by omega) hs)
theorem api_pair {μ ν : Mem} {D : Nat} (i j : Int32) (hG : GR μ ν D) : API mX6_pair mX7_pair [.int i, .int j] μ ν D := by
  obtain ⟨N, t, hNR, ht, hP, hT, hB⟩ := id hG
  obtain ⟨⟨c0, c0', hN2, hN6, ⟨cl, cl1, cl2, cl3⟩, ⟨cm, cm1, cm2, cm3⟩, c3, ⟨cr, cr1, cr2, cr3⟩⟩, ⟨z, z1, z2, z3⟩, h6, h6', h7, hTK, ⟨hm, hH, hsym⟩, hR⟩ := id hNR.1
  simp only [Nat.zero_add] at z2 h6' h7 hH hR
  by_cases hs : stnP i N ∧ stnP j N ∧ ¬ i = j
  · obtain ⟨⟨i, hi, rfl⟩, ⟨j, hj, rfl⟩, hij⟩ := hs
    have hne : i ≠ j := fun e => hij (by rw [e])
    exact API.eq hG (c_X6_pair c0 hN6 hi hj hne) (c_X7_pair c0' hN6 hi hj hne) (by rw [(hH i hi).2.1, (hH i hi).2.2, (hH j hj).2.1, (hH j hj).2.2])
  · exact API.same hG (c_X6_pairX (k := 0) (w := 0) c0 hN6 hs) (c_X7_pairX (k := 0) (w := 0) c0' hN6 (by omega) hs)
theorem api_draw {μ ν : Mem} {D : Nat} (i k : Int32) (hG : GR μ ν D) : API mX6_draw mX7_draw [.int i, .int k] μ ν D := by
  obtain ⟨N, t, hNR, ht, hP, hT, hB⟩ := id hG
  obtain ⟨⟨c0, c0', hN2, hN6, ⟨cl, cl1, cl2, cl3⟩, ⟨cm, cm1, cm2, cm3⟩, c3, ⟨cr, cr1, cr2, cr3⟩⟩, ⟨z, z1, z2, z3⟩, h6, h6', h7, hTK, ⟨hm, hH, hsym⟩, hR⟩ := id hNR.1
  simp only [Nat.zero_add] at z2 h6' h7 hH hR
  by_cases hs : stnP i N ∧ ¬ k < 0 ∧ ¬ 999 < k
  · obtain ⟨⟨i, hi, rfl⟩, hk⟩ := hs
    exact API.eq hG (c_X6_draw c0 hN6 hi hk) (c_X7_draw c0' hN6 hi hk) (by rw [z1, z2])
  · exact API.same hG (c_X6_drawX (j := 0) (w := 0) c0 hN6 hs) (c_X7_drawX (j := 0) (w := 0) c0' hN6 (by omega) hs)

set_option maxHeartbeats 4000000 in
set_option maxRecDepth 100000 in
theorem c_X6_count0 {μ : Mem} {N : Nat} (h0 : μ 2 0 = nI N) (hN : N ≤ 6) : Con shC mX6_count [.ref 0, .int 0] μ (fun r u => r = μ 2 0 ∧ μ = u) := by
  have z0 : shC[0]? = some (6, 8, [some 1, none, some 2, some 53, some 104, some 106, none, none]) := rfl
  have hn := net_2
  obtain ⟨hn0, hn1, hn2, hnS⟩ := id hn
  refine Con.ofAW (al0 := [some (.ref 0), some (.int 0)]) (by decide) rfl (Nat.le_of_ble_eq_true rfl) rfl ?_
  refine a_iload_n (pc := 0) dX6_count_0 rfl rfl ?_
  refine a_tableIn (pc := 1) (off := 75) (tgt := 76) dX6_count_1 (by decide) (by decide) (by decide) (by decide) ?_
  refine a_aload_n (pc := 76) dX6_count_76 rfl rfl ?_
  refine a_getr (pc := 77) fl_X6_16 (by assumption) (by decide) (by rfl) dX6_count_77 ?_
  refine a_geti (pc := 80) fl_X6_60 (by assumption) (by decide) (by rfl) dX6_count_80 ?_
  refine a_iret (pc := 83) rfl dX6_count_83 ?_
  exact ⟨rfl, rfl⟩

set_option maxHeartbeats 4000000 in
set_option maxRecDepth 100000 in
theorem c_X7_count0 {ν : Mem} {N : Nat} (h0 : ν 0 2 = nI N) (hN : N ≤ 6) : Con shM mX7_count [.ref 0, .int 0] ν (fun r u => r = ν 0 2 ∧ ν = u) := by
  have m0 : shM[0]? = some (7, 18, [none, some 1, none, none, none, none, none, some 2, some 3, none, none, some 4, none, none, some 5, some 6, some 7, some 8]) := rfl
  have m1 : shM[1]? = some (100, 200, []) := rfl
  have m2 : shM[2]? = some (100, 1320, []) := rfl
  have m3 : shM[3]? = some (100, 1760, []) := rfl
  have m4 : shM[4]? = some (100, 4, []) := rfl
  have m5 : shM[5]? = some (100, 6, []) := rfl
  have m6 : shM[6]? = some (100, 6, []) := rfl
  have m7 : shM[7]? = some (100, 6, []) := rfl
  have m8 : shM[8]? = some (100, 6, []) := rfl
  refine Con.ofAW (al0 := [some (.ref 0), some (.int 0)]) (by decide) rfl (Nat.le_of_ble_eq_true rfl) rfl ?_
  refine a_iload_n (pc := 0) dX7_count_0 rfl rfl ?_
  refine a_tableIn (pc := 1) (off := 75) (tgt := 76) dX7_count_1 (by decide) (by decide) (by decide) (by decide) ?_
  refine a_aload_n (pc := 76) dX7_count_76 rfl rfl ?_
  refine a_geti (pc := 77) fl_X7_56 (by assumption) (by decide) (by rfl) dX7_count_77 ?_
  refine a_iret (pc := 80) rfl dX7_count_80 ?_
  exact ⟨rfl, rfl⟩

set_option maxHeartbeats 4000000 in
set_option maxRecDepth 100000 in
theorem c_X6_count1 {μ : Mem} {N : Nat} (h0 : μ 2 0 = nI N) (hN : N ≤ 6) : Con shC mX6_count [.ref 0, .int 1] μ (fun r u => r = nI (ouC (ndC μ 2 0) N N) ∧ μ = u) := by
  have z0 : shC[0]? = some (6, 8, [some 1, none, some 2, some 53, some 104, some 106, none, none]) := rfl
  have hn := net_2
  obtain ⟨hn0, hn1, hn2, hnS⟩ := id hn
  refine Con.ofAW (al0 := [some (.ref 0), some (.int 1)]) (by decide) rfl (Nat.le_of_ble_eq_true rfl) rfl ?_
  refine a_iload_n (pc := 0) dX6_count_0 rfl rfl ?_
  refine a_tableIn (pc := 1) (off := 83) (tgt := 84) dX6_count_1 (by decide) (by decide) (by decide) (by decide) ?_
  refine a_aload_n (pc := 84) dX6_count_84 rfl rfl ?_
  refine a_getr (pc := 85) fl_X6_16 (by assumption) (by decide) (by rfl) dX6_count_85 ?_
  refine a_iconst (pc := 88) (v := 0) dX6_count_88 (by decide) ?_
  refine a_callI1 (pc := 89) ck_X6_104 ⟨(Nat.le_of_ble_eq_true rfl), (Nat.le_of_ble_eq_true rfl)⟩ (by assumption) (by decide) (Nat.le_of_ble_eq_true rfl) dX6_count_89 rfl (c_X2_pairsOf net_2 h0 hN) ?_
  rintro r u ⟨rfl, rfl⟩
  refine a_iret (pc := 92) rfl dX6_count_92 ?_
  exact ⟨rfl, rfl⟩

set_option maxHeartbeats 4000000 in
set_option maxRecDepth 100000 in
theorem c_X7_count1 {ν : Mem} {N : Nat} (h0 : ν 0 2 = nI N) (hN : N ≤ 6) : Con shM mX7_count [.ref 0, .int 1] ν (fun r u => r = nI (ouR (ndR (ν 2) 0) N) ∧ ν = u) := by
  have m0 : shM[0]? = some (7, 18, [none, some 1, none, none, none, none, none, some 2, some 3, none, none, some 4, none, none, some 5, some 6, some 7, some 8]) := rfl
  have m1 : shM[1]? = some (100, 200, []) := rfl
  have m2 : shM[2]? = some (100, 1320, []) := rfl
  have m3 : shM[3]? = some (100, 1760, []) := rfl
  have m4 : shM[4]? = some (100, 4, []) := rfl
  have m5 : shM[5]? = some (100, 6, []) := rfl
  have m6 : shM[6]? = some (100, 6, []) := rfl
  have m7 : shM[7]? = some (100, 6, []) := rfl
  have m8 : shM[8]? = some (100, 6, []) := rfl
  refine Con.ofAW (al0 := [some (.ref 0), some (.int 1)]) (by decide) rfl (Nat.le_of_ble_eq_true rfl) rfl ?_
  refine a_iload_n (pc := 0) dX7_count_0 rfl rfl ?_
  refine a_tableIn (pc := 1) (off := 80) (tgt := 81) dX7_count_1 (by decide) (by decide) (by decide) (by decide) ?_
  refine a_aload_n (pc := 81) dX7_count_81 rfl rfl ?_
  refine a_iconst (pc := 82) (v := 0) dX7_count_82 (by decide) ?_
  refine a_callI1 (pc := 83) ck_X7_190 ⟨(Nat.le_of_ble_eq_true rfl), (Nat.le_of_ble_eq_true rfl)⟩ (by assumption) (by decide) (Nat.le_of_ble_eq_true rfl) dX7_count_83 rfl (c_X7_pairs h0 hN) ?_
  rintro r u ⟨rfl, rfl⟩
  refine a_iret (pc := 86) rfl dX7_count_86 ?_
  exact ⟨rfl, rfl⟩

set_option maxHeartbeats 4000000 in
set_option maxRecDepth 100000 in
theorem c_X6_count2 {μ : Mem} {N : Nat} (h0 : μ 2 0 = nI N) (hN : N ≤ 6) : Con shC mX6_count [.ref 0, .int 2] μ (fun r u => r = nI (ouC (ndC μ 2 1) N N) ∧ μ = u) := by
  have z0 : shC[0]? = some (6, 8, [some 1, none, some 2, some 53, some 104, some 106, none, none]) := rfl
  have hn := net_2
  obtain ⟨hn0, hn1, hn2, hnS⟩ := id hn
  refine Con.ofAW (al0 := [some (.ref 0), some (.int 2)]) (by decide) rfl (Nat.le_of_ble_eq_true rfl) rfl ?_
  refine a_iload_n (pc := 0) dX6_count_0 rfl rfl ?_
  refine a_tableIn (pc := 1) (off := 92) (tgt := 93) dX6_count_1 (by decide) (by decide) (by decide) (by decide) ?_
  refine a_aload_n (pc := 93) dX6_count_93 rfl rfl ?_
  refine a_getr (pc := 94) fl_X6_16 (by assumption) (by decide) (by rfl) dX6_count_94 ?_
  refine a_iconst (pc := 97) (v := 1) dX6_count_97 (by decide) ?_
  refine a_callI1 (pc := 98) ck_X6_104 ⟨(Nat.le_of_ble_eq_true rfl), (Nat.le_of_ble_eq_true rfl)⟩ (by assumption) (by decide) (Nat.le_of_ble_eq_true rfl) dX6_count_98 rfl (c_X2_pairsOf net_2 h0 hN) ?_
  rintro r u ⟨rfl, rfl⟩
  refine a_iret (pc := 101) rfl dX6_count_101 ?_
  exact ⟨rfl, rfl⟩

set_option maxHeartbeats 4000000 in
set_option maxRecDepth 100000 in
theorem c_X7_count2 {ν : Mem} {N : Nat} (h0 : ν 0 2 = nI N) (hN : N ≤ 6) : Con shM mX7_count [.ref 0, .int 2] ν (fun r u => r = nI (ouR (ndR (ν 2) 1) N) ∧ ν = u) := by
  have m0 : shM[0]? = some (7, 18, [none, some 1, none, none, none, none, none, some 2, some 3, none, none, some 4, none, none, some 5, some 6, some 7, some 8]) := rfl
  have m1 : shM[1]? = some (100, 200, []) := rfl
  have m2 : shM[2]? = some (100, 1320, []) := rfl
  have m3 : shM[3]? = some (100, 1760, []) := rfl
  have m4 : shM[4]? = some (100, 4, []) := rfl
  have m5 : shM[5]? = some (100, 6, []) := rfl
  have m6 : shM[6]? = some (100, 6, []) := rfl
  have m7 : shM[7]? = some (100, 6, []) := rfl
  have m8 : shM[8]? = some (100, 6, []) := rfl
  refine Con.ofAW (al0 := [some (.ref 0), some (.int 2)]) (by decide) rfl (Nat.le_of_ble_eq_true rfl) rfl ?_
  refine a_iload_n (pc := 0) dX7_count_0 rfl rfl ?_
  refine a_tableIn (pc := 1) (off := 86) (tgt := 87) dX7_count_1 (by decide) (by decide) (by decide) (by decide) ?_
  refine a_aload_n (pc := 87) dX7_count_87 rfl rfl ?_
  refine a_iconst (pc := 88) (v := 1) dX7_count_88 (by decide) ?_
  refine a_callI1 (pc := 89) ck_X7_190 ⟨(Nat.le_of_ble_eq_true rfl), (Nat.le_of_ble_eq_true rfl)⟩ (by assumption) (by decide) (Nat.le_of_ble_eq_true rfl) dX7_count_89 rfl (c_X7_pairs h0 hN) ?_
  rintro r u ⟨rfl, rfl⟩
  refine a_iret (pc := 92) rfl dX7_count_92 ?_
  exact ⟨rfl, rfl⟩

set_option maxHeartbeats 4000000 in
set_option maxRecDepth 100000 in
theorem c_X6_count3 {μ : Mem} {N : Nat} (h0 : μ 2 0 = nI N) (hN : N ≤ 6) : Con shC mX6_count [.ref 0, .int 3] μ (fun r u => r = μ 2 6 ∧ μ = u) := by
  have z0 : shC[0]? = some (6, 8, [some 1, none, some 2, some 53, some 104, some 106, none, none]) := rfl
  have hn := net_2
  obtain ⟨hn0, hn1, hn2, hnS⟩ := id hn
  refine Con.ofAW (al0 := [some (.ref 0), some (.int 3)]) (by decide) rfl (Nat.le_of_ble_eq_true rfl) rfl ?_
  refine a_iload_n (pc := 0) dX6_count_0 rfl rfl ?_
  refine a_tableIn (pc := 1) (off := 101) (tgt := 102) dX6_count_1 (by decide) (by decide) (by decide) (by decide) ?_
  refine a_aload_n (pc := 102) dX6_count_102 rfl rfl ?_
  refine a_getr (pc := 103) fl_X6_16 (by assumption) (by decide) (by rfl) dX6_count_103 ?_
  refine a_geti (pc := 106) fl_X6_110 (by assumption) (by decide) (by rfl) dX6_count_106 ?_
  refine a_iret (pc := 109) rfl dX6_count_109 ?_
  exact ⟨rfl, rfl⟩

set_option maxHeartbeats 4000000 in
set_option maxRecDepth 100000 in
theorem c_X7_count3 {ν : Mem} {N : Nat} (h0 : ν 0 2 = nI N) (hN : N ≤ 6) : Con shM mX7_count [.ref 0, .int 3] ν (fun r u => r = ν 2 426 ∧ ν = u) := by
  have m0 : shM[0]? = some (7, 18, [none, some 1, none, none, none, none, none, some 2, some 3, none, none, some 4, none, none, some 5, some 6, some 7, some 8]) := rfl
  have m1 : shM[1]? = some (100, 200, []) := rfl
  have m2 : shM[2]? = some (100, 1320, []) := rfl
  have m3 : shM[3]? = some (100, 1760, []) := rfl
  have m4 : shM[4]? = some (100, 4, []) := rfl
  have m5 : shM[5]? = some (100, 6, []) := rfl
  have m6 : shM[6]? = some (100, 6, []) := rfl
  have m7 : shM[7]? = some (100, 6, []) := rfl
  have m8 : shM[8]? = some (100, 6, []) := rfl
  refine Con.ofAW (al0 := [some (.ref 0), some (.int 3)]) (by decide) rfl (Nat.le_of_ble_eq_true rfl) rfl ?_
  refine a_iload_n (pc := 0) dX7_count_0 rfl rfl ?_
  refine a_tableIn (pc := 1) (off := 92) (tgt := 93) dX7_count_1 (by decide) (by decide) (by decide) (by decide) ?_
  refine a_aload_n (pc := 93) dX7_count_93 rfl rfl ?_
  refine a_getr (pc := 94) fl_X7_13 (by assumption) (by decide) (by rfl) dX7_count_94 ?_
  refine a_sipush (pc := 97) (v := 426) dX7_count_97 (by decide) ?_
  refine a_iald (pc := 100) (j := 426) (by assumption) rfl (by omega) (by decide) dX7_count_100 ?_
  refine a_iret (pc := 101) rfl dX7_count_101 ?_
  exact ⟨rfl, rfl⟩

set_option maxHeartbeats 4000000 in
set_option maxRecDepth 100000 in
theorem c_X6_count4 {μ : Mem} {N : Nat} (h0 : μ 2 0 = nI N) (hN : N ≤ 6) : Con shC mX6_count [.ref 0, .int 4] μ (fun r u => r = sumF (fun i => μ (stA 2 i + 1) 0) N ∧ μ = u) := by
  have z0 : shC[0]? = some (6, 8, [some 1, none, some 2, some 53, some 104, some 106, none, none]) := rfl
  have hn := net_2
  obtain ⟨hn0, hn1, hn2, hnS⟩ := id hn
  refine Con.ofAW (al0 := [some (.ref 0), some (.int 4)]) (by decide) rfl (Nat.le_of_ble_eq_true rfl) rfl ?_
  refine a_iload_n (pc := 0) dX6_count_0 rfl rfl ?_
  refine a_tableIn (pc := 1) (off := 109) (tgt := 110) dX6_count_1 (by decide) (by decide) (by decide) (by decide) ?_
  refine a_aload_n (pc := 110) dX6_count_110 rfl rfl ?_
  refine a_getr (pc := 111) fl_X6_16 (by assumption) (by decide) (by rfl) dX6_count_111 ?_
  refine a_iconst (pc := 114) (v := 0) dX6_count_114 (by decide) ?_
  refine a_callI1 (pc := 115) ck_X6_113 ⟨(Nat.le_of_ble_eq_true rfl), (Nat.le_of_ble_eq_true rfl)⟩ (by assumption) (by decide) (Nat.le_of_ble_eq_true rfl) dX6_count_115 rfl (c_X2_totalOf0 net_2 h0 hN) ?_
  rintro r u ⟨rfl, rfl⟩
  refine a_iret (pc := 118) rfl dX6_count_118 ?_
  exact ⟨rfl, rfl⟩

set_option maxHeartbeats 4000000 in
set_option maxRecDepth 100000 in
theorem c_X7_count4 {ν : Mem} {N : Nat} (h0 : ν 0 2 = nI N) (hN : N ≤ 6) : Con shM mX7_count [.ref 0, .int 4] ν (fun r u => r = sumF (fun i => ν 2 (70 * i + 8)) N ∧ ν = u) := by
  have m0 : shM[0]? = some (7, 18, [none, some 1, none, none, none, none, none, some 2, some 3, none, none, some 4, none, none, some 5, some 6, some 7, some 8]) := rfl
  have m1 : shM[1]? = some (100, 200, []) := rfl
  have m2 : shM[2]? = some (100, 1320, []) := rfl
  have m3 : shM[3]? = some (100, 1760, []) := rfl
  have m4 : shM[4]? = some (100, 4, []) := rfl
  have m5 : shM[5]? = some (100, 6, []) := rfl
  have m6 : shM[6]? = some (100, 6, []) := rfl
  have m7 : shM[7]? = some (100, 6, []) := rfl
  have m8 : shM[8]? = some (100, 6, []) := rfl
  refine Con.ofAW (al0 := [some (.ref 0), some (.int 4)]) (by decide) rfl (Nat.le_of_ble_eq_true rfl) rfl ?_
  refine a_iload_n (pc := 0) dX7_count_0 rfl rfl ?_
  refine a_tableIn (pc := 1) (off := 101) (tgt := 102) dX7_count_1 (by decide) (by decide) (by decide) (by decide) ?_
  refine a_aload_n (pc := 102) dX7_count_102 rfl rfl ?_
  refine a_iconst (pc := 103) (v := 0) dX7_count_103 (by decide) ?_
  refine a_bipush (pc := 104) (v := 8) dX7_count_104 (by decide) ?_
  refine a_callI2 (pc := 106) ck_X7_193 ⟨(Nat.le_of_ble_eq_true rfl), (Nat.le_of_ble_eq_true rfl)⟩ (by assumption) (by decide) (Nat.le_of_ble_eq_true rfl) dX7_count_106 rfl (c_X7_all (r := 0) (k := 8) (by omega) (by omega) h0 hN) ?_
  rintro r u ⟨rfl, rfl⟩
  refine a_iret (pc := 109) rfl dX7_count_109 ?_
  simp

set_option maxHeartbeats 4000000 in
set_option maxRecDepth 100000 in
theorem c_X6_count5 {μ : Mem} {N : Nat} (h0 : μ 2 0 = nI N) (hN : N ≤ 6) : Con shC mX6_count [.ref 0, .int 5] μ (fun r u => r = sumF (fun i => μ (stA 2 i) 6) N ∧ μ = u) := by
  have z0 : shC[0]? = some (6, 8, [some 1, none, some 2, some 53, some 104, some 106, none, none]) := rfl
  have hn := net_2
  obtain ⟨hn0, hn1, hn2, hnS⟩ := id hn
  refine Con.ofAW (al0 := [some (.ref 0), some (.int 5)]) (by decide) rfl (Nat.le_of_ble_eq_true rfl) rfl ?_
  refine a_iload_n (pc := 0) dX6_count_0 rfl rfl ?_
  refine a_tableIn (pc := 1) (off := 118) (tgt := 119) dX6_count_1 (by decide) (by decide) (by decide) (by decide) ?_
  refine a_aload_n (pc := 119) dX6_count_119 rfl rfl ?_
  refine a_getr (pc := 120) fl_X6_16 (by assumption) (by decide) (by rfl) dX6_count_120 ?_
  refine a_iconst (pc := 123) (v := 1) dX6_count_123 (by decide) ?_
  refine a_callI1 (pc := 124) ck_X6_113 ⟨(Nat.le_of_ble_eq_true rfl), (Nat.le_of_ble_eq_true rfl)⟩ (by assumption) (by decide) (Nat.le_of_ble_eq_true rfl) dX6_count_124 rfl (c_X2_totalOf1 net_2 h0 hN) ?_
  rintro r u ⟨rfl, rfl⟩
  refine a_iret (pc := 127) rfl dX6_count_127 ?_
  exact ⟨rfl, rfl⟩

set_option maxHeartbeats 4000000 in
set_option maxRecDepth 100000 in
theorem c_X7_count5 {ν : Mem} {N : Nat} (h0 : ν 0 2 = nI N) (hN : N ≤ 6) : Con shM mX7_count [.ref 0, .int 5] ν (fun r u => r = sumF (fun i => ν 2 (70 * i + 5)) N ∧ ν = u) := by
  have m0 : shM[0]? = some (7, 18, [none, some 1, none, none, none, none, none, some 2, some 3, none, none, some 4, none, none, some 5, some 6, some 7, some 8]) := rfl
  have m1 : shM[1]? = some (100, 200, []) := rfl
  have m2 : shM[2]? = some (100, 1320, []) := rfl
  have m3 : shM[3]? = some (100, 1760, []) := rfl
  have m4 : shM[4]? = some (100, 4, []) := rfl
  have m5 : shM[5]? = some (100, 6, []) := rfl
  have m6 : shM[6]? = some (100, 6, []) := rfl
  have m7 : shM[7]? = some (100, 6, []) := rfl
  have m8 : shM[8]? = some (100, 6, []) := rfl
  refine Con.ofAW (al0 := [some (.ref 0), some (.int 5)]) (by decide) rfl (Nat.le_of_ble_eq_true rfl) rfl ?_
  refine a_iload_n (pc := 0) dX7_count_0 rfl rfl ?_
  refine a_tableIn (pc := 1) (off := 109) (tgt := 110) dX7_count_1 (by decide) (by decide) (by decide) (by decide) ?_
  refine a_aload_n (pc := 110) dX7_count_110 rfl rfl ?_
  refine a_iconst (pc := 111) (v := 0) dX7_count_111 (by decide) ?_
  refine a_iconst (pc := 112) (v := 5) dX7_count_112 (by decide) ?_
  refine a_callI2 (pc := 113) ck_X7_193 ⟨(Nat.le_of_ble_eq_true rfl), (Nat.le_of_ble_eq_true rfl)⟩ (by assumption) (by decide) (Nat.le_of_ble_eq_true rfl) dX7_count_113 rfl (c_X7_all (r := 0) (k := 5) (by omega) (by omega) h0 hN) ?_
  rintro r u ⟨rfl, rfl⟩
  refine a_iret (pc := 116) rfl dX7_count_116 ?_
  simp

set_option maxHeartbeats 4000000 in
set_option maxRecDepth 100000 in
theorem c_X6_count6 {μ : Mem} {N : Nat} (h0 : μ 2 0 = nI N) (hN : N ≤ 6) : Con shC mX6_count [.ref 0, .int 6] μ (fun r u => r = sumF (fun i => μ (stA 2 i) 7) N ∧ μ = u) := by
  have z0 : shC[0]? = some (6, 8, [some 1, none, some 2, some 53, some 104, some 106, none, none]) := rfl
  have hn := net_2
  obtain ⟨hn0, hn1, hn2, hnS⟩ := id hn
  refine Con.ofAW (al0 := [some (.ref 0), some (.int 6)]) (by decide) rfl (Nat.le_of_ble_eq_true rfl) rfl ?_
  refine a_iload_n (pc := 0) dX6_count_0 rfl rfl ?_
  refine a_tableIn (pc := 1) (off := 127) (tgt := 128) dX6_count_1 (by decide) (by decide) (by decide) (by decide) ?_
  refine a_aload_n (pc := 128) dX6_count_128 rfl rfl ?_
  refine a_getr (pc := 129) fl_X6_16 (by assumption) (by decide) (by rfl) dX6_count_129 ?_
  refine a_iconst (pc := 132) (v := 2) dX6_count_132 (by decide) ?_
  refine a_callI1 (pc := 133) ck_X6_113 ⟨(Nat.le_of_ble_eq_true rfl), (Nat.le_of_ble_eq_true rfl)⟩ (by assumption) (by decide) (Nat.le_of_ble_eq_true rfl) dX6_count_133 rfl (c_X2_totalOf2 net_2 h0 hN) ?_
  rintro r u ⟨rfl, rfl⟩
  refine a_iret (pc := 136) rfl dX6_count_136 ?_
  exact ⟨rfl, rfl⟩

set_option maxHeartbeats 4000000 in
set_option maxRecDepth 100000 in
theorem c_X7_count6 {ν : Mem} {N : Nat} (h0 : ν 0 2 = nI N) (hN : N ≤ 6) : Con shM mX7_count [.ref 0, .int 6] ν (fun r u => r = sumF (fun i => ν 2 (70 * i + 6)) N ∧ ν = u) := by
  have m0 : shM[0]? = some (7, 18, [none, some 1, none, none, none, none, none, some 2, some 3, none, none, some 4, none, none, some 5, some 6, some 7, some 8]) := rfl
  have m1 : shM[1]? = some (100, 200, []) := rfl
  have m2 : shM[2]? = some (100, 1320, []) := rfl
  have m3 : shM[3]? = some (100, 1760, []) := rfl
  have m4 : shM[4]? = some (100, 4, []) := rfl
  have m5 : shM[5]? = some (100, 6, []) := rfl
  have m6 : shM[6]? = some (100, 6, []) := rfl
  have m7 : shM[7]? = some (100, 6, []) := rfl
  have m8 : shM[8]? = some (100, 6, []) := rfl
  refine Con.ofAW (al0 := [some (.ref 0), some (.int 6)]) (by decide) rfl (Nat.le_of_ble_eq_true rfl) rfl ?_
  refine a_iload_n (pc := 0) dX7_count_0 rfl rfl ?_
  refine a_tableIn (pc := 1) (off := 116) (tgt := 117) dX7_count_1 (by decide) (by decide) (by decide) (by decide) ?_
  refine a_aload_n (pc := 117) dX7_count_117 rfl rfl ?_
  refine a_iconst (pc := 118) (v := 0) dX7_count_118 (by decide) ?_
  refine a_bipush (pc := 119) (v := 6) dX7_count_119 (by decide) ?_
  refine a_callI2 (pc := 121) ck_X7_193 ⟨(Nat.le_of_ble_eq_true rfl), (Nat.le_of_ble_eq_true rfl)⟩ (by assumption) (by decide) (Nat.le_of_ble_eq_true rfl) dX7_count_121 rfl (c_X7_all (r := 0) (k := 6) (by omega) (by omega) h0 hN) ?_
  rintro r u ⟨rfl, rfl⟩
  refine a_iret (pc := 124) rfl dX7_count_124 ?_
  simp

set_option maxHeartbeats 4000000 in
set_option maxRecDepth 100000 in
theorem c_X6_count7 {μ : Mem} {N : Nat} (h0 : μ 2 0 = nI N) (hN : N ≤ 6) : Con shC mX6_count [.ref 0, .int 7] μ (fun r u => r = sumF (fun i => μ (stA 2 i) 5) N ∧ μ = u) := by
  have z0 : shC[0]? = some (6, 8, [some 1, none, some 2, some 53, some 104, some 106, none, none]) := rfl
  have hn := net_2
  obtain ⟨hn0, hn1, hn2, hnS⟩ := id hn
  refine Con.ofAW (al0 := [some (.ref 0), some (.int 7)]) (by decide) rfl (Nat.le_of_ble_eq_true rfl) rfl ?_
  refine a_iload_n (pc := 0) dX6_count_0 rfl rfl ?_
  refine a_tableIn (pc := 1) (off := 136) (tgt := 137) dX6_count_1 (by decide) (by decide) (by decide) (by decide) ?_
  refine a_aload_n (pc := 137) dX6_count_137 rfl rfl ?_
  refine a_getr (pc := 138) fl_X6_16 (by assumption) (by decide) (by rfl) dX6_count_138 ?_
  refine a_iconst (pc := 141) (v := 3) dX6_count_141 (by decide) ?_
  refine a_callI1 (pc := 142) ck_X6_113 ⟨(Nat.le_of_ble_eq_true rfl), (Nat.le_of_ble_eq_true rfl)⟩ (by assumption) (by decide) (Nat.le_of_ble_eq_true rfl) dX6_count_142 rfl (c_X2_totalOf3 net_2 h0 hN) ?_
  rintro r u ⟨rfl, rfl⟩
  refine a_iret (pc := 145) rfl dX6_count_145 ?_
  exact ⟨rfl, rfl⟩

set_option maxHeartbeats 4000000 in
set_option maxRecDepth 100000 in
theorem c_X7_count7 {ν : Mem} {N : Nat} (h0 : ν 0 2 = nI N) (hN : N ≤ 6) : Con shM mX7_count [.ref 0, .int 7] ν (fun r u => r = sumF (fun i => ν 2 (70 * i + 4)) N ∧ ν = u) := by
  have m0 : shM[0]? = some (7, 18, [none, some 1, none, none, none, none, none, some 2, some 3, none, none, some 4, none, none, some 5, some 6, some 7, some 8]) := rfl
  have m1 : shM[1]? = some (100, 200, []) := rfl
  have m2 : shM[2]? = some (100, 1320, []) := rfl
  have m3 : shM[3]? = some (100, 1760, []) := rfl
  have m4 : shM[4]? = some (100, 4, []) := rfl
  have m5 : shM[5]? = some (100, 6, []) := rfl
  have m6 : shM[6]? = some (100, 6, []) := rfl
  have m7 : shM[7]? = some (100, 6, []) := rfl
  have m8 : shM[8]? = some (100, 6, []) := rfl
  refine Con.ofAW (al0 := [some (.ref 0), some (.int 7)]) (by decide) rfl (Nat.le_of_ble_eq_true rfl) rfl ?_
  refine a_iload_n (pc := 0) dX7_count_0 rfl rfl ?_
  refine a_tableIn (pc := 1) (off := 124) (tgt := 125) dX7_count_1 (by decide) (by decide) (by decide) (by decide) ?_
  refine a_aload_n (pc := 125) dX7_count_125 rfl rfl ?_
  refine a_iconst (pc := 126) (v := 0) dX7_count_126 (by decide) ?_
  refine a_iconst (pc := 127) (v := 4) dX7_count_127 (by decide) ?_
  refine a_callI2 (pc := 128) ck_X7_193 ⟨(Nat.le_of_ble_eq_true rfl), (Nat.le_of_ble_eq_true rfl)⟩ (by assumption) (by decide) (Nat.le_of_ble_eq_true rfl) dX7_count_128 rfl (c_X7_all (r := 0) (k := 4) (by omega) (by omega) h0 hN) ?_
  rintro r u ⟨rfl, rfl⟩
  refine a_iret (pc := 131) rfl dX7_count_131 ?_
  simp

set_option maxHeartbeats 4000000 in
set_option maxRecDepth 100000 in
theorem c_X6_count8 {μ : Mem} {N : Nat} (h0 : μ 2 0 = nI N) (hN : N ≤ 6) : Con shC mX6_count [.ref 0, .int 8] μ (fun r u => r = μ 2 5 ∧ μ = u) := by
  have z0 : shC[0]? = some (6, 8, [some 1, none, some 2, some 53, some 104, some 106, none, none]) := rfl
  have hn := net_2
  obtain ⟨hn0, hn1, hn2, hnS⟩ := id hn
  refine Con.ofAW (al0 := [some (.ref 0), some (.int 8)]) (by decide) rfl (Nat.le_of_ble_eq_true rfl) rfl ?_
  refine a_iload_n (pc := 0) dX6_count_0 rfl rfl ?_
  refine a_tableIn (pc := 1) (off := 145) (tgt := 146) dX6_count_1 (by decide) (by decide) (by decide) (by decide) ?_
  refine a_aload_n (pc := 146) dX6_count_146 rfl rfl ?_
  refine a_getr (pc := 147) fl_X6_16 (by assumption) (by decide) (by rfl) dX6_count_147 ?_
  refine a_geti (pc := 150) fl_X6_107 (by assumption) (by decide) (by rfl) dX6_count_150 ?_
  refine a_iret (pc := 153) rfl dX6_count_153 ?_
  exact ⟨rfl, rfl⟩

set_option maxHeartbeats 4000000 in
set_option maxRecDepth 100000 in
theorem c_X7_count8 {ν : Mem} {N : Nat} (h0 : ν 0 2 = nI N) (hN : N ≤ 6) : Con shM mX7_count [.ref 0, .int 8] ν (fun r u => r = ν 2 428 ∧ ν = u) := by
  have m0 : shM[0]? = some (7, 18, [none, some 1, none, none, none, none, none, some 2, some 3, none, none, some 4, none, none, some 5, some 6, some 7, some 8]) := rfl
  have m1 : shM[1]? = some (100, 200, []) := rfl
  have m2 : shM[2]? = some (100, 1320, []) := rfl
  have m3 : shM[3]? = some (100, 1760, []) := rfl
  have m4 : shM[4]? = some (100, 4, []) := rfl
  have m5 : shM[5]? = some (100, 6, []) := rfl
  have m6 : shM[6]? = some (100, 6, []) := rfl
  have m7 : shM[7]? = some (100, 6, []) := rfl
  have m8 : shM[8]? = some (100, 6, []) := rfl
  refine Con.ofAW (al0 := [some (.ref 0), some (.int 8)]) (by decide) rfl (Nat.le_of_ble_eq_true rfl) rfl ?_
  refine a_iload_n (pc := 0) dX7_count_0 rfl rfl ?_
  refine a_tableIn (pc := 1) (off := 131) (tgt := 132) dX7_count_1 (by decide) (by decide) (by decide) (by decide) ?_
  refine a_aload_n (pc := 132) dX7_count_132 rfl rfl ?_
  refine a_getr (pc := 133) fl_X7_13 (by assumption) (by decide) (by rfl) dX7_count_133 ?_
  refine a_sipush (pc := 136) (v := 428) dX7_count_136 (by decide) ?_
  refine a_iald (pc := 139) (j := 428) (by assumption) rfl (by omega) (by decide) dX7_count_139 ?_
  refine a_iret (pc := 140) rfl dX7_count_140 ?_
  exact ⟨rfl, rfl⟩

set_option maxHeartbeats 4000000 in
set_option maxRecDepth 100000 in
theorem c_X6_count9 {μ : Mem} {N : Nat} (h0 : μ 2 0 = nI N) (hN : N ≤ 6) : Con shC mX6_count [.ref 0, .int 9] μ (fun r u => r = μ 2 1 ∧ μ = u) := by
  have z0 : shC[0]? = some (6, 8, [some 1, none, some 2, some 53, some 104, some 106, none, none]) := rfl
  have hn := net_2
  obtain ⟨hn0, hn1, hn2, hnS⟩ := id hn
  refine Con.ofAW (al0 := [some (.ref 0), some (.int 9)]) (by decide) rfl (Nat.le_of_ble_eq_true rfl) rfl ?_
  refine a_iload_n (pc := 0) dX6_count_0 rfl rfl ?_
  refine a_tableIn (pc := 1) (off := 153) (tgt := 154) dX6_count_1 (by decide) (by decide) (by decide) (by decide) ?_
  refine a_aload_n (pc := 154) dX6_count_154 rfl rfl ?_
  refine a_getr (pc := 155) fl_X6_16 (by assumption) (by decide) (by rfl) dX6_count_155 ?_
  refine a_geti (pc := 158) fl_X6_203 (by assumption) (by decide) (by rfl) dX6_count_158 ?_
  refine a_iret (pc := 161) rfl dX6_count_161 ?_
  exact ⟨rfl, rfl⟩

set_option maxHeartbeats 4000000 in
set_option maxRecDepth 100000 in
theorem c_X7_count9 {ν : Mem} {N : Nat} (h0 : ν 0 2 = nI N) (hN : N ≤ 6) : Con shM mX7_count [.ref 0, .int 9] ν (fun r u => r = ν 0 3 ∧ ν = u) := by
  have m0 : shM[0]? = some (7, 18, [none, some 1, none, none, none, none, none, some 2, some 3, none, none, some 4, none, none, some 5, some 6, some 7, some 8]) := rfl
  have m1 : shM[1]? = some (100, 200, []) := rfl
  have m2 : shM[2]? = some (100, 1320, []) := rfl
  have m3 : shM[3]? = some (100, 1760, []) := rfl
  have m4 : shM[4]? = some (100, 4, []) := rfl
  have m5 : shM[5]? = some (100, 6, []) := rfl
  have m6 : shM[6]? = some (100, 6, []) := rfl
  have m7 : shM[7]? = some (100, 6, []) := rfl
  have m8 : shM[8]? = some (100, 6, []) := rfl
  refine Con.ofAW (al0 := [some (.ref 0), some (.int 9)]) (by decide) rfl (Nat.le_of_ble_eq_true rfl) rfl ?_
  refine a_iload_n (pc := 0) dX7_count_0 rfl rfl ?_
  refine a_tableIn (pc := 1) (off := 140) (tgt := 141) dX7_count_1 (by decide) (by decide) (by decide) (by decide) ?_
  refine a_aload_n (pc := 141) dX7_count_141 rfl rfl ?_
  refine a_geti (pc := 142) fl_X7_59 (by assumption) (by decide) (by rfl) dX7_count_142 ?_
  refine a_iret (pc := 145) rfl dX7_count_145 ?_
  exact ⟨rfl, rfl⟩

set_option maxHeartbeats 4000000 in
set_option maxRecDepth 100000 in
theorem c_X6_count10 {μ : Mem} {N : Nat} (h0 : μ 2 0 = nI N) (hN : N ≤ 6) : Con shC mX6_count [.ref 0, .int 10] μ (fun r u => r = μ 2 2 ∧ μ = u) := by
  have z0 : shC[0]? = some (6, 8, [some 1, none, some 2, some 53, some 104, some 106, none, none]) := rfl
  have hn := net_2
  obtain ⟨hn0, hn1, hn2, hnS⟩ := id hn
  refine Con.ofAW (al0 := [some (.ref 0), some (.int 10)]) (by decide) rfl (Nat.le_of_ble_eq_true rfl) rfl ?_
  refine a_iload_n (pc := 0) dX6_count_0 rfl rfl ?_
  refine a_tableIn (pc := 1) (off := 161) (tgt := 162) dX6_count_1 (by decide) (by decide) (by decide) (by decide) ?_
  refine a_aload_n (pc := 162) dX6_count_162 rfl rfl ?_
  refine a_getr (pc := 163) fl_X6_16 (by assumption) (by decide) (by rfl) dX6_count_163 ?_
  refine a_geti (pc := 166) fl_X6_206 (by assumption) (by decide) (by rfl) dX6_count_166 ?_
  refine a_iret (pc := 169) rfl dX6_count_169 ?_
  exact ⟨rfl, rfl⟩

set_option maxHeartbeats 4000000 in
set_option maxRecDepth 100000 in
theorem c_X7_count10 {ν : Mem} {N : Nat} (h0 : ν 0 2 = nI N) (hN : N ≤ 6) : Con shM mX7_count [.ref 0, .int 10] ν (fun r u => r = ν 0 4 ∧ ν = u) := by
  have m0 : shM[0]? = some (7, 18, [none, some 1, none, none, none, none, none, some 2, some 3, none, none, some 4, none, none, some 5, some 6, some 7, some 8]) := rfl
  have m1 : shM[1]? = some (100, 200, []) := rfl
  have m2 : shM[2]? = some (100, 1320, []) := rfl
  have m3 : shM[3]? = some (100, 1760, []) := rfl
  have m4 : shM[4]? = some (100, 4, []) := rfl
  have m5 : shM[5]? = some (100, 6, []) := rfl
  have m6 : shM[6]? = some (100, 6, []) := rfl
  have m7 : shM[7]? = some (100, 6, []) := rfl
  have m8 : shM[8]? = some (100, 6, []) := rfl
  refine Con.ofAW (al0 := [some (.ref 0), some (.int 10)]) (by decide) rfl (Nat.le_of_ble_eq_true rfl) rfl ?_
  refine a_iload_n (pc := 0) dX7_count_0 rfl rfl ?_
  refine a_tableIn (pc := 1) (off := 145) (tgt := 146) dX7_count_1 (by decide) (by decide) (by decide) (by decide) ?_
  refine a_aload_n (pc := 146) dX7_count_146 rfl rfl ?_
  refine a_geti (pc := 147) fl_X7_62 (by assumption) (by decide) (by rfl) dX7_count_147 ?_
  refine a_iret (pc := 150) rfl dX7_count_150 ?_
  exact ⟨rfl, rfl⟩

set_option maxHeartbeats 4000000 in
set_option maxRecDepth 100000 in
theorem c_X6_count11 {μ : Mem} {N : Nat} (h0 : μ 2 0 = nI N) (hN : N ≤ 6) : Con shC mX6_count [.ref 0, .int 11] μ (fun r u => r = μ 2 3 ∧ μ = u) := by
  have z0 : shC[0]? = some (6, 8, [some 1, none, some 2, some 53, some 104, some 106, none, none]) := rfl
  have hn := net_2
  obtain ⟨hn0, hn1, hn2, hnS⟩ := id hn
  refine Con.ofAW (al0 := [some (.ref 0), some (.int 11)]) (by decide) rfl (Nat.le_of_ble_eq_true rfl) rfl ?_
  refine a_iload_n (pc := 0) dX6_count_0 rfl rfl ?_
  refine a_tableIn (pc := 1) (off := 169) (tgt := 170) dX6_count_1 (by decide) (by decide) (by decide) (by decide) ?_
  refine a_aload_n (pc := 170) dX6_count_170 rfl rfl ?_
  refine a_getr (pc := 171) fl_X6_16 (by assumption) (by decide) (by rfl) dX6_count_171 ?_
  refine a_geti (pc := 174) fl_X6_209 (by assumption) (by decide) (by rfl) dX6_count_174 ?_
  refine a_iret (pc := 177) rfl dX6_count_177 ?_
  exact ⟨rfl, rfl⟩

set_option maxHeartbeats 4000000 in
set_option maxRecDepth 100000 in
theorem c_X7_count11 {ν : Mem} {N : Nat} (h0 : ν 0 2 = nI N) (hN : N ≤ 6) : Con shM mX7_count [.ref 0, .int 11] ν (fun r u => r = ν 0 5 ∧ ν = u) := by
  have m0 : shM[0]? = some (7, 18, [none, some 1, none, none, none, none, none, some 2, some 3, none, none, some 4, none, none, some 5, some 6, some 7, some 8]) := rfl
  have m1 : shM[1]? = some (100, 200, []) := rfl
  have m2 : shM[2]? = some (100, 1320, []) := rfl
  have m3 : shM[3]? = some (100, 1760, []) := rfl
  have m4 : shM[4]? = some (100, 4, []) := rfl
  have m5 : shM[5]? = some (100, 6, []) := rfl
  have m6 : shM[6]? = some (100, 6, []) := rfl
  have m7 : shM[7]? = some (100, 6, []) := rfl
  have m8 : shM[8]? = some (100, 6, []) := rfl
  refine Con.ofAW (al0 := [some (.ref 0), some (.int 11)]) (by decide) rfl (Nat.le_of_ble_eq_true rfl) rfl ?_
  refine a_iload_n (pc := 0) dX7_count_0 rfl rfl ?_
  refine a_tableIn (pc := 1) (off := 150) (tgt := 151) dX7_count_1 (by decide) (by decide) (by decide) (by decide) ?_
  refine a_aload_n (pc := 151) dX7_count_151 rfl rfl ?_
  refine a_geti (pc := 152) fl_X7_65 (by assumption) (by decide) (by rfl) dX7_count_152 ?_
  refine a_iret (pc := 155) rfl dX7_count_155 ?_
  exact ⟨rfl, rfl⟩

set_option maxHeartbeats 4000000 in
set_option maxRecDepth 100000 in
theorem c_X6_count12 {μ : Mem} {N : Nat} (h0 : μ 2 0 = nI N) (hN : N ≤ 6) : Con shC mX6_count [.ref 0, .int 12] μ (fun r u => r = μ 2 4 ∧ μ = u) := by
  have z0 : shC[0]? = some (6, 8, [some 1, none, some 2, some 53, some 104, some 106, none, none]) := rfl
  have hn := net_2
  obtain ⟨hn0, hn1, hn2, hnS⟩ := id hn
  refine Con.ofAW (al0 := [some (.ref 0), some (.int 12)]) (by decide) rfl (Nat.le_of_ble_eq_true rfl) rfl ?_
  refine a_iload_n (pc := 0) dX6_count_0 rfl rfl ?_
  refine a_tableIn (pc := 1) (off := 177) (tgt := 178) dX6_count_1 (by decide) (by decide) (by decide) (by decide) ?_
  refine a_aload_n (pc := 178) dX6_count_178 rfl rfl ?_
  refine a_getr (pc := 179) fl_X6_16 (by assumption) (by decide) (by rfl) dX6_count_179 ?_
  refine a_geti (pc := 182) fl_X6_212 (by assumption) (by decide) (by rfl) dX6_count_182 ?_
  refine a_iret (pc := 185) rfl dX6_count_185 ?_
  exact ⟨rfl, rfl⟩

set_option maxHeartbeats 4000000 in
set_option maxRecDepth 100000 in
theorem c_X7_count12 {ν : Mem} {N : Nat} (h0 : ν 0 2 = nI N) (hN : N ≤ 6) : Con shM mX7_count [.ref 0, .int 12] ν (fun r u => r = ν 0 6 ∧ ν = u) := by
  have m0 : shM[0]? = some (7, 18, [none, some 1, none, none, none, none, none, some 2, some 3, none, none, some 4, none, none, some 5, some 6, some 7, some 8]) := rfl
  have m1 : shM[1]? = some (100, 200, []) := rfl
  have m2 : shM[2]? = some (100, 1320, []) := rfl
  have m3 : shM[3]? = some (100, 1760, []) := rfl
  have m4 : shM[4]? = some (100, 4, []) := rfl
  have m5 : shM[5]? = some (100, 6, []) := rfl
  have m6 : shM[6]? = some (100, 6, []) := rfl
  have m7 : shM[7]? = some (100, 6, []) := rfl
  have m8 : shM[8]? = some (100, 6, []) := rfl
  refine Con.ofAW (al0 := [some (.ref 0), some (.int 12)]) (by decide) rfl (Nat.le_of_ble_eq_true rfl) rfl ?_
  refine a_iload_n (pc := 0) dX7_count_0 rfl rfl ?_
  refine a_tableIn (pc := 1) (off := 155) (tgt := 156) dX7_count_1 (by decide) (by decide) (by decide) (by decide) ?_
  refine a_aload_n (pc := 156) dX7_count_156 rfl rfl ?_
  refine a_geti (pc := 157) fl_X7_68 (by assumption) (by decide) (by rfl) dX7_count_157 ?_
  refine a_iret (pc := 160) rfl dX7_count_160 ?_
  exact ⟨rfl, rfl⟩

set_option maxHeartbeats 4000000 in
set_option maxRecDepth 100000 in
theorem c_X6_count13 {μ : Mem} {N : Nat} (h0 : μ 2 0 = nI N) (hN : N ≤ 6) : Con shC mX6_count [.ref 0, .int 13] μ (fun r u => r = μ 0 6 ∧ μ = u) := by
  have z0 : shC[0]? = some (6, 8, [some 1, none, some 2, some 53, some 104, some 106, none, none]) := rfl
  have hn := net_2
  obtain ⟨hn0, hn1, hn2, hnS⟩ := id hn
  refine Con.ofAW (al0 := [some (.ref 0), some (.int 13)]) (by decide) rfl (Nat.le_of_ble_eq_true rfl) rfl ?_
  refine a_iload_n (pc := 0) dX6_count_0 rfl rfl ?_
  refine a_tableIn (pc := 1) (off := 185) (tgt := 186) dX6_count_1 (by decide) (by decide) (by decide) (by decide) ?_
  refine a_aload_n (pc := 186) dX6_count_186 rfl rfl ?_
  refine a_geti (pc := 187) fl_X6_119 (by assumption) (by decide) (by rfl) dX6_count_187 ?_
  refine a_iret (pc := 190) rfl dX6_count_190 ?_
  exact ⟨rfl, rfl⟩

set_option maxHeartbeats 4000000 in
set_option maxRecDepth 100000 in
theorem c_X7_count13 {ν : Mem} {N : Nat} (h0 : ν 0 2 = nI N) (hN : N ≤ 6) : Con shM mX7_count [.ref 0, .int 13] ν (fun r u => r = ν 0 9 ∧ ν = u) := by
  have m0 : shM[0]? = some (7, 18, [none, some 1, none, none, none, none, none, some 2, some 3, none, none, some 4, none, none, some 5, some 6, some 7, some 8]) := rfl
  have m1 : shM[1]? = some (100, 200, []) := rfl
  have m2 : shM[2]? = some (100, 1320, []) := rfl
  have m3 : shM[3]? = some (100, 1760, []) := rfl
  have m4 : shM[4]? = some (100, 4, []) := rfl
  have m5 : shM[5]? = some (100, 6, []) := rfl
  have m6 : shM[6]? = some (100, 6, []) := rfl
  have m7 : shM[7]? = some (100, 6, []) := rfl
  have m8 : shM[8]? = some (100, 6, []) := rfl
  refine Con.ofAW (al0 := [some (.ref 0), some (.int 13)]) (by decide) rfl (Nat.le_of_ble_eq_true rfl) rfl ?_
  refine a_iload_n (pc := 0) dX7_count_0 rfl rfl ?_
  refine a_tableIn (pc := 1) (off := 160) (tgt := 161) dX7_count_1 (by decide) (by decide) (by decide) (by decide) ?_
  refine a_aload_n (pc := 161) dX7_count_161 rfl rfl ?_
  refine a_geti (pc := 162) fl_X7_75 (by assumption) (by decide) (by rfl) dX7_count_162 ?_
  refine a_iret (pc := 165) rfl dX7_count_165 ?_
  exact ⟨rfl, rfl⟩

set_option maxHeartbeats 4000000 in
set_option maxRecDepth 100000 in
theorem c_X6_count14 {μ : Mem} {N : Nat} (h0 : μ 2 0 = nI N) (hN : N ≤ 6) : Con shC mX6_count [.ref 0, .int 14] μ (fun r u => r = μ 0 1 ∧ μ = u) := by
  have z0 : shC[0]? = some (6, 8, [some 1, none, some 2, some 53, some 104, some 106, none, none]) := rfl
  have hn := net_2
  obtain ⟨hn0, hn1, hn2, hnS⟩ := id hn
  refine Con.ofAW (al0 := [some (.ref 0), some (.int 14)]) (by decide) rfl (Nat.le_of_ble_eq_true rfl) rfl ?_
  refine a_iload_n (pc := 0) dX6_count_0 rfl rfl ?_
  refine a_tableIn (pc := 1) (off := 190) (tgt := 191) dX6_count_1 (by decide) (by decide) (by decide) (by decide) ?_
  refine a_aload_n (pc := 191) dX6_count_191 rfl rfl ?_
  refine a_geti (pc := 192) fl_X6_48 (by assumption) (by decide) (by rfl) dX6_count_192 ?_
  refine a_iret (pc := 195) rfl dX6_count_195 ?_
  exact ⟨rfl, rfl⟩

set_option maxHeartbeats 4000000 in
set_option maxRecDepth 100000 in
theorem c_X7_count14 {ν : Mem} {N : Nat} (h0 : ν 0 2 = nI N) (hN : N ≤ 6) : Con shM mX7_count [.ref 0, .int 14] ν (fun r u => r = ν 0 0 ∧ ν = u) := by
  have m0 : shM[0]? = some (7, 18, [none, some 1, none, none, none, none, none, some 2, some 3, none, none, some 4, none, none, some 5, some 6, some 7, some 8]) := rfl
  have m1 : shM[1]? = some (100, 200, []) := rfl
  have m2 : shM[2]? = some (100, 1320, []) := rfl
  have m3 : shM[3]? = some (100, 1760, []) := rfl
  have m4 : shM[4]? = some (100, 4, []) := rfl
  have m5 : shM[5]? = some (100, 6, []) := rfl
  have m6 : shM[6]? = some (100, 6, []) := rfl
  have m7 : shM[7]? = some (100, 6, []) := rfl
  have m8 : shM[8]? = some (100, 6, []) := rfl
  refine Con.ofAW (al0 := [some (.ref 0), some (.int 14)]) (by decide) rfl (Nat.le_of_ble_eq_true rfl) rfl ?_
  refine a_iload_n (pc := 0) dX7_count_0 rfl rfl ?_
  refine a_tableIn (pc := 1) (off := 165) (tgt := 166) dX7_count_1 (by decide) (by decide) (by decide) (by decide) ?_
  refine a_aload_n (pc := 166) dX7_count_166 rfl rfl ?_
  refine a_geti (pc := 167) fl_X7_81 (by assumption) (by decide) (by rfl) dX7_count_167 ?_
  refine a_iret (pc := 170) rfl dX7_count_170 ?_
  exact ⟨rfl, rfl⟩

set_option maxHeartbeats 4000000 in
set_option maxRecDepth 100000 in
theorem c_X6_countX {μ : Mem} {w : Int32} (h : ¬ (¬ w < 0 ∧ ¬ 14 < w)) : Con shC mX6_count [.ref 0, .int w] μ (fun r u => r = -1 ∧ μ = u) := by
  have z0 : shC[0]? = some (6, 8, [some 1, none, some 2, some 53, some 104, some 106, none, none]) := rfl
  have hn := net_2
  obtain ⟨hn0, hn1, hn2, hnS⟩ := id hn
  refine Con.ofAW (al0 := [some (.ref 0), some (.int w)]) (by decide) rfl (Nat.le_of_ble_eq_true rfl) rfl ?_
  refine a_iload_n (pc := 0) dX6_count_0 rfl rfl ?_
  refine a_tableOut (pc := 1) (tgt := 196) dX6_count_1 (out_of (K := 14) rfl h) (by decide) ?_
  refine a_iconst (pc := 196) (v := -1) dX6_count_196 (by decide) ?_
  refine a_iret (pc := 197) rfl dX6_count_197 ?_
  exact ⟨rfl, rfl⟩

set_option maxHeartbeats 4000000 in
set_option maxRecDepth 100000 in
theorem c_X7_countX {ν : Mem} {w : Int32} (h : ¬ (¬ w < 0 ∧ ¬ 14 < w)) : Con shM mX7_count [.ref 0, .int w] ν (fun r u => r = -1 ∧ ν = u) := by
  have m0 : shM[0]? = some (7, 18, [none, some 1, none, none, none, none, none, some 2, some 3, none, none, some 4, none, none, some 5, some 6, some 7, some 8]) := rfl
  have m1 : shM[1]? = some (100, 200, []) := rfl
  have m2 : shM[2]? = some (100, 1320, []) := rfl
  have m3 : shM[3]? = some (100, 1760, []) := rfl
  have m4 : shM[4]? = some (100, 4, []) := rfl
  have m5 : shM[5]? = some (100, 6, []) := rfl
  have m6 : shM[6]? = some (100, 6, []) := rfl
  have m7 : shM[7]? = some (100, 6, []) := rfl
  have m8 : shM[8]? = some (100, 6, []) := rfl
  refine Con.ofAW (al0 := [some (.ref 0), some (.int w)]) (by decide) rfl (Nat.le_of_ble_eq_true rfl) rfl ?_
  refine a_iload_n (pc := 0) dX7_count_0 rfl rfl ?_
  refine a_tableOut (pc := 1) (tgt := 171) dX7_count_1 (out_of (K := 14) rfl h) (by decide) ?_
  refine a_iconst (pc := 171) (v := -1) dX7_count_171 (by decide) ?_
  refine a_iret (pc := 172) rfl dX7_count_172 ?_
  exact ⟨rfl, rfl⟩

theorem inC_congr {S T : Nat → Nat → Bool} {N i : Nat} (h : ∀ j, j < N → S i j = T i j) : ∀ k, k ≤ N → inC S i k = inC T i k
  | 0, _ => rfl
  | k + 1, hk => by unfold inC; rw [inC_congr h k (by omega), h k (by omega)]
theorem ouC_congr {S T : Nat → Nat → Bool} {N : Nat} (hN : N ≤ 6) (h : ∀ i j, i < N → j < N → S i j = T i j) : ouC S N N = ouC T N N := by
  have : ∀ k, k ≤ N → ouC S N k = ouC T N k := by
    intro k
    induction k with
    | zero => intro _; rfl
    | succ k ih => intro hk; unfold ouC; rw [ih (by omega), inC_congr (fun j hj => h k j (by omega) hj) N (Nat.le_refl _)]
  exact this N (Nat.le_refl _)

theorem api_count {μ ν : Mem} {D : Nat} (w : Int32) (hG : GR μ ν D) : API mX6_count mX7_count [.int w] μ ν D := by
  obtain ⟨N, t, hNR, ht, hP, hT, hB⟩ := id hG
  obtain ⟨⟨c0, c0', hN2, hN6, ⟨cl, cl1, cl2, cl3⟩, ⟨cm, cm1, cm2, cm3⟩, c3, ⟨cr, cr1, cr2, cr3⟩⟩, ⟨z, z1, z2, z3⟩, h6, h6', h7, hTK, ⟨hm, hH, hsym⟩, hR⟩ := id hNR.1
  simp only [Nat.zero_add] at z2 h6' h7 hH hR
  obtain ⟨l, l1, l2, l3, l4⟩ := hT
  obtain ⟨pc, pp, pc1, pc2, pc3⟩ := hP
  by_cases hw : ¬ w < 0 ∧ ¬ 14 < w
  · obtain ⟨j, hj, rfl⟩ := in_of (K := 14) (n := 14) rfl hw
    rcases (show j = 0 ∨ j = 1 ∨ j = 2 ∨ j = 3 ∨ j = 4 ∨ j = 5 ∨ j = 6 ∨ j = 7 ∨ j = 8 ∨ j = 9 ∨ j = 10 ∨ j = 11 ∨ j = 12 ∨ j = 13 ∨ j = 14 by omega) with rfl | rfl | rfl | rfl | rfl | rfl | rfl | rfl | rfl | rfl | rfl | rfl | rfl | rfl | rfl
    · exact API.eq hG (c_X6_count0 c0 hN6) (c_X7_count0 c0' hN6) (c0.trans c0'.symm)
    · exact API.eq hG (c_X6_count1 c0 hN6) (c_X7_count1 c0' hN6) (by rw [← pairs_eq hN6 (fun i j hi hj => by unfold ndR; rw [(hH i hi).2.2, (hH j hj).2.2]; exact decide_eq_decide.mpr (near_sym hi hj hN6 (hH i hi).1 (hH j hj).1 (hsym i j hi hj)))]; congr 1; exact ouC_congr hN6 (fun i j hi hj => by unfold ndC ndR; rw [(hH i hi).2.1, (hH i hi).2.2, (hH j hj).2.1, (hH j hj).2.2]))
    · exact API.eq hG (c_X6_count2 c0 hN6) (c_X7_count2 c0' hN6) (by rw [← pairs_eq hN6 (fun i j hi hj => by unfold ndR; rw [(hH i hi).2.2, (hH j hj).2.2]; exact decide_eq_decide.mpr (near_sym hi hj hN6 (hH i hi).1 (hH j hj).1 (hsym i j hi hj)))]; congr 1; exact ouC_congr hN6 (fun i j hi hj => by unfold ndC ndR; rw [(hH i hi).2.1, (hH i hi).2.2, (hH j hj).2.1, (hH j hj).2.2]))
    · exact API.eq hG (c_X6_count3 c0 hN6) (c_X7_count3 c0' hN6) (h6.trans h6'.symm)
    · exact API.eq hG (c_X6_count4 c0 hN6) (c_X7_count4 c0' hN6) (sumF_congr N (fun i hi => (hR i hi).1.1.2.2.2.2.2.2.2.1))
    · exact API.eq hG (c_X6_count5 c0 hN6) (c_X7_count5 c0' hN6) (sumF_congr N (fun i hi => (hR i hi).1.1.2.2.2.2.1))
    · exact API.eq hG (c_X6_count6 c0 hN6) (c_X7_count6 c0' hN6) (sumF_congr N (fun i hi => (hR i hi).1.1.2.2.2.2.2.1))
    · exact API.eq hG (c_X6_count7 c0 hN6) (c_X7_count7 c0' hN6) (sumF_congr N (fun i hi => (hR i hi).1.1.2.2.2.1))
    · exact API.eq hG (c_X6_count8 c0 hN6) (c_X7_count8 c0' hN6) (z1.trans z2.symm)
    · exact API.eq hG (c_X6_count9 c0 hN6) (c_X7_count9 c0' hN6) (cl1.trans cl2.symm)
    · exact API.eq hG (c_X6_count10 c0 hN6) (c_X7_count10 c0' hN6) (cm1.trans cm2.symm)
    · exact API.eq hG (c_X6_count11 c0 hN6) (c_X7_count11 c0' hN6) (c3)
    · exact API.eq hG (c_X6_count12 c0 hN6) (c_X7_count12 c0' hN6) (cr1.trans cr2.symm)
    · exact API.eq hG (c_X6_count13 c0 hN6) (c_X7_count13 c0' hN6) (pc1.trans pc2.symm)
    · exact API.eq hG (c_X6_count14 c0 hN6) (c_X7_count14 c0' hN6) (l2.trans l3.symm)
  · exact API.same hG (c_X6_countX hw) (c_X7_countX hw)

