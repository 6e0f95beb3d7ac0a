/-! the class reads its first text; the reference builds the same by hand -/
theorem nm_self {ν : Mem} : nmM ν (ν 0 12) (ν 0 13) = ν := by
  funext x k; unfold nmM; simp only [up2_ap]
  by_cases h : x = 0
  · subst h
    by_cases h1 : k = 13
    · subst h1; simp
    · by_cases h2 : k = 12
      · subst h2; simp
      · simp [h1, h2]
  · simp [h]
def RdStp (μ ν' : Mem) (tx : Nat → Nat) (l p' : Nat) : Prop := ∃ μ', Con shC mX3_readItem [.ref 104] μ (fun r u => r = 1 ∧ u = μ') ∧ RT μ' tx l ∧ μ' 104 4 = nI p' ∧ FC μ μ' ∧ RDr μ' ν' p'
theorem stp_n {μ ν : Mem} {tx : Nat → Nat} {l p v p' : Nat} (hT : RT μ tx l) (hp4 : μ 104 4 = nI p) (hpl : p < l) (hR : RDr μ ν p) (hp0 : p = 0) (htx : tx p = 110) (hok : nP tx l (p + 1) 59) (hv : nV tx l (p + 1) = v) (hv2 : 2 ≤ v ∧ v ≤ 6) (hp' : nE tx l (p + 1) + 1 = p') : RdStp μ (up2 ν 0 10 (nI v)) tx l p' := by
  obtain ⟨N, hm, sz, ⟨n1, n2, n3, n4⟩, hU, hZ, hK, hH, hS⟩ := hR
  have hN0 : N = 0 := by omega
  have h1 := hok.1
  subst hv
  subst hp'
  have hx : ∀ x, x ≠ 53 → x ≠ 104 → x ≠ 105 → up2 (rdM μ (nE tx l (p + 1) + 1) (upd (μ 105) 0 (nI (nV tx l (p + 1))))) 53 0 (nI (nV tx l (p + 1))) x = μ x := fun x a b c => by rw [up2_ne a, rd_x b c]
  have h53 : ∀ k, k ≠ 0 → up2 (rdM μ (nE tx l (p + 1) + 1) (upd (μ 105) 0 (nI (nV tx l (p + 1))))) 53 0 (nI (nV tx l (p + 1))) 53 k = μ 53 k := fun k a => by rw [up2_k a, rd_x (by omega) (by omega)]
  have hy : ∀ x, x ≠ 0 → up2 ν 0 10 (nI (nV tx l (p + 1))) x = ν x := fun x a => up2_ne a
  refine ⟨_, (c_X3_readItem110 hT hp4 hpl htx n1 n3).mono ?_, ⟨?_, ?_, hT.2.2⟩, ?_, fun x hx' => hx x (by omega) (by omega) (by omega), nV tx l (p + 1), hm, sz, ⟨up2_at, up2_at, hv2.2, Or.inr ⟨hv2.1, by omega⟩⟩, ?_, ?_, ?_, ?_, ?_⟩
  · rintro r u (w | w)
    · exact ⟨w.1, w.2.2⟩
    · exact absurd ⟨hok, hN0, hv2⟩ w.2.1
  · rw [up2_ne (by omega), rd_e]; exact hT.1
  · rw [hx 1 (by omega) (by omega) (by omega)]; exact hT.2.1
  · rw [up2_ne (by omega), rd_p]
  · exact hU.fr (fun k k1 k2 => h53 k (by omega)) (hy 4 (by omega))
  · exact hZ.fr (h53 5 (by omega)) (by rw [hy 2 (by omega)])
  · exact hK.fr (h53 6 (by omega)) (h53 7 (by omega)) (hx 54 (by omega) (by omega) (by omega)) (fun j _ _ => by rw [hy 2 (by omega)])
  · exact hH.fr (fun i hi => by rw [hx _ (by unfold stA; omega) (by unfold stA; omega) (by unfold stA; omega)]) (fun j _ _ => by rw [hy 2 (by omega)])
  · exact hS.fr (fun i hi k _ => by rw [hx _ (by unfold stA; omega) (by unfold stA; omega) (by unfold stA; omega)]) (fun i hi d d1 d2 => hx _ (by unfold stA; omega) (by unfold stA; omega) (by unfold stA; omega)) (fun j _ _ => by rw [hy 2 (by omega)])
theorem stp_h {μ ν : Mem} {tx : Nat → Nat} {l p i j p' : Nat} (hT : RT μ tx l) (hp4 : μ 104 4 = nI p) (hpl : p < l) (hR : RDr μ ν p) (hp0 : 0 < p) (h10 : ν 0 10 = nI 4) (htx : tx p = 104) (hok : nP tx l (p + 1) 44 ∧ nP tx l (nE tx l (p + 1) + 1) 59) (hi : nV tx l (p + 1) = i) (hj : nV tx l (nE tx l (p + 1) + 1) = j) (hij : i < 4 ∧ j < 4 ∧ i ≠ j) (hp' : nE tx l (nE tx l (p + 1) + 1) + 1 = p') : RdStp μ (hrsF ν 2 i j) tx l p' := by
  obtain ⟨N, hm, sz, hN, -⟩ := id hR
  obtain rfl : N = 4 := (nI_eq (by have := hN.2.2.1; omega) (by omega)).mp (hN.2.1.symm.trans h10)
  have h1 := hok.1.1
  have h2 := hok.2.1
  subst hi
  subst hj
  subst hp'
  have hJ := hR.joins (P := nE tx l (nE tx l (p + 1) + 1) + 1) (g := upd (upd (μ 105) 0 (nI (nV tx l (p + 1)))) 1 (nI (nV tx l (nE tx l (p + 1) + 1)))) (w := ν 0 12) (ed := ν 0 13) (e := nE tx l (nE tx l (p + 1) + 1) + 1) hp0 (by omega) (show nV tx l (p + 1) < 6 by omega) (show nV tx l (nE tx l (p + 1) + 1) < 6 by omega) hij.2.2
  rw [nm_self] at hJ
  refine ⟨_, (c_X3_readItem104 hT hp4 hpl htx hN.1 hN.2.2.1).mono ?_, ⟨?_, ?_, hT.2.2⟩, ?_, fun x hx => ?_, hJ⟩
  · rintro r u (w | w)
    · exact ⟨w.1, w.2.2⟩
    · exact absurd ⟨hok, by omega, hij⟩ w.2.1
  · unfold jonF; rw [up2_ne (by unfold stA; omega), up2_ne (by unfold stA; omega), rd_e]; exact hT.1
  · unfold jonF; rw [up2_ne (by unfold stA; omega), up2_ne (by unfold stA; omega), rd_x (by omega) (by omega)]; exact hT.2.1
  · unfold jonF; rw [up2_ne (by unfold stA; omega), up2_ne (by unfold stA; omega), rd_p]
  · unfold jonF; rw [up2_ne (by unfold stA; omega), up2_ne (by unfold stA; omega), rd_x (by omega) (by omega)]
theorem stp_l {μ ν : Mem} {tx : Nat → Nat} {l p i j g p' s : Nat} (hT : RT μ tx l) (hp4 : μ 104 4 = nI p) (hpl : p < l) (hR : RDr μ ν p) (hp0 : 0 < p) (h10 : ν 0 10 = nI 4) (htx : tx p = 108) (hok : nP tx l (p + 1) 44 ∧ nP tx l (nE tx l (p + 1) + 1) 44 ∧ nP tx l (nE tx l (nE tx l (p + 1) + 1) + 1) 59) (hi : nV tx l (p + 1) = i) (hj : nV tx l (nE tx l (p + 1) + 1) = j) (hg : nV tx l (nE tx l (nE tx l (p + 1) + 1) + 1) = g) (hij : i < 4 ∧ j < 4 ∧ i ≠ j ∧ 1 ≤ g ∧ g ≤ 9) (hb : bitF (ν 2 (1300 + i)) (nI j)) (hs : ν 2 (880 + 70 * i + 8) = nI s) (hs6 : s < 6) (hp' : nE tx l (nE tx l (nE tx l (p + 1) + 1) + 1) + 1 = p') : RdStp μ (adsF ν 2 i s (nI j) (nI g)) tx l p' := by
  obtain ⟨N, hm, sz, hN, hU, hZ, hK, hH, hS⟩ := id hR
  obtain rfl : N = 4 := (nI_eq (by have := hN.2.2.1; omega) (by omega)).mp (hN.2.1.symm.trans h10)
  have h1 := hok.1.1
  have h2 := hok.2.1.1
  have h3 := hok.2.2.1
  subst hi
  subst hj
  subst hg
  subst hp'
  obtain rfl : sz (nV tx l (p + 1)) = s := (nI_eq (by have := (hS (nV tx l (p + 1)) (by omega)).2.2.2.1; omega) (by omega)).mp ((hS (nV tx l (p + 1)) (by omega)).2.2.1.symm.trans hs)
  have hb2 : bitF (μ (stA 53 (nV tx l (p + 1))) 0) (nI (nV tx l (nE tx l (p + 1) + 1))) := by
    rw [(hH.1 (nV tx l (p + 1)) (by omega)).2.1, ← (hH.1 (nV tx l (p + 1)) (by omega)).2.2]; exact hb
  have hJ := RDr.adds (P := nE tx l (nE tx l (nE tx l (p + 1) + 1) + 1) + 1) (g := upd (upd (upd (μ 105) 0 (nI (nV tx l (p + 1)))) 1 (nI (nV tx l (nE tx l (p + 1) + 1)))) 2 (nI (nV tx l (nE tx l (nE tx l (p + 1) + 1) + 1)))) (w := ν 0 12) (ed := ν 0 13) (e := nE tx l (nE tx l (nE tx l (p + 1) + 1) + 1) + 1) (i := nV tx l (p + 1)) (to := nI (nV tx l (nE tx l (p + 1) + 1))) (l := nI (nV tx l (nE tx l (nE tx l (p + 1) + 1) + 1))) hN hU hZ hK hH hS hp0 (by omega) (by omega) hs6
  rw [nm_self] at hJ
  refine ⟨_, (c_X3_readItem108 (sz := sz) hT hp4 hpl htx hN.1 hN.2.2.1 (fun i hi => ⟨(hS i hi).2.1, (hS i hi).2.2.2.1⟩)).mono ?_, ⟨?_, ?_, hT.2.2⟩, ?_, fun x hx => ?_, hJ⟩
  · rintro r u (w | w)
    · exact ⟨w.1, w.2.2⟩
    · exact absurd ⟨hok, by omega, hij.1, hij.2.1, hij.2.2.1, hij.2.2.2.1, hij.2.2.2.2, hb2, hs6⟩ w.2.1
  · rw [add_o (by unfold stA; omega) (by unfold stA; omega) (by unfold stA; omega), rd_e]; exact hT.1
  · rw [add_o (by unfold stA; omega) (by unfold stA; omega) (by unfold stA; omega), rd_x (by omega) (by omega)]; exact hT.2.1
  · rw [add_o (by unfold stA; omega) (by unfold stA; omega) (by unfold stA; omega), rd_p]
  · rw [add_o (by unfold stA; omega) (by unfold stA; omega) (by unfold stA; omega), rd_x (by omega) (by omega)]
theorem ftx_TX : TX ftx 46 := ⟨by omega, fun k hk => (fb_all k hk).2⟩
theorem ff_rel0 {μ ν : Mem} {tx : Nat → Nat} {l : Nat} (hX : ∀ k, k < l → μ 1 k = nI (tx k)) (hTX : TX tx l) : RT (ffM μ l) tx l ∧ FC μ (ffM μ l) ∧ RDr (ffM μ l) (clrF ν) 0 := by
  obtain ⟨hC, hF⟩ := nclS_6 (μ := μ) (n := 53)
  have hC2 : NCL (up2 (nclS μ 53 6) 104 3 (nI l)) 53 := by
    obtain ⟨h0, h1, h2, h3, h4, h5, h6, h7, hk, hS⟩ := hC
    have e := up2_ne (μ := nclS μ 53 6) (o := 104) (k := 3) (v := nI l) (o' := 53) (by omega)
    have e1 := up2_ne (μ := nclS μ 53 6) (o := 104) (k := 3) (v := nI l) (o' := 53 + 1) (by omega)
    exact ⟨by rw [e]; exact h0, by rw [e]; exact h1, by rw [e]; exact h2, by rw [e]; exact h3, by rw [e]; exact h4, by rw [e]; exact h5, by rw [e]; exact h6, by rw [e]; exact h7, by rw [e1]; exact hk, fun i hi => (hS i hi).fr (fun x a b => up2_ne (by unfold stA at *; omega))⟩
  refine ⟨⟨?_, fun k hk => ?_, hTX⟩, fun x hx => ?_, read_start (μ := μ) (l := l) hC2⟩
  · unfold ffM; rw [rd_e, up2_at]
  · unfold ffM; rw [rd_x (by omega) (by omega), up2_ne (by omega), hF 1 (by omega)]; exact hX k hk
  · unfold ffM; rw [rd_x (by omega) (by omega), up2_ne (by omega), hF x (by omega)]
theorem nP_of {tx : Nat → Nat} {l p c e : Nat} (he : nE tx l p = e) (h : p < e ∧ e < l ∧ tx e = c) : nP tx l p c := by
  unfold nP; rw [he]; exact h
theorem first_read {μ : Mem} (hX : ∀ k, k < 46 → μ 1 k = nI (ftx k)) : ∃ w, Con shC mX3_firstFault [.ref 104, .int (nI 46)] μ (fun r u => r = -4 ∧ w = u) ∧ FC μ w ∧ RDr w nu8 46 := by
  obtain ⟨t0, f0, r0⟩ := ff_rel0 (ν := mz) hX ftx_TX
  have p0 : ffM μ 46 104 4 = nI 0 := by unfold ffM; rw [rd_p]
  obtain ⟨m1, c1, t1, p1, f1, r1⟩ := stp_n (ν := nu0) (v := 4) (p' := 3) t0 p0 (by omega) r0 rfl (by decide +kernel) (nP_of (e := 2) (by decide +kernel) (by decide +kernel)) (by decide +kernel) (by omega) (by decide +kernel)
  obtain ⟨m2, c2, t2, p2, f2, r2⟩ := stp_h (ν := nu1) (i := 0) (j := 1) (p' := 8) t1 p1 (by omega) r1 (by omega) (by decide +kernel) (by decide +kernel) ⟨nP_of (e := 5) (by decide +kernel) (by decide +kernel), nP_of (e := 7) (by decide +kernel) (by decide +kernel)⟩ (by decide +kernel) (by decide +kernel) (by omega) (by decide +kernel)
  obtain ⟨m3, c3, t3, p3, f3, r3⟩ := stp_h (ν := nu2) (i := 1) (j := 2) (p' := 13) t2 p2 (by omega) r2 (by omega) (by decide +kernel) (by decide +kernel) ⟨nP_of (e := 10) (by decide +kernel) (by decide +kernel), nP_of (e := 12) (by decide +kernel) (by decide +kernel)⟩ (by decide +kernel) (by decide +kernel) (by omega) (by decide +kernel)
  obtain ⟨m4, c4, t4, p4, f4, r4⟩ := stp_h (ν := nu3) (i := 2) (j := 3) (p' := 18) t3 p3 (by omega) r3 (by omega) (by decide +kernel) (by decide +kernel) ⟨nP_of (e := 15) (by decide +kernel) (by decide +kernel), nP_of (e := 17) (by decide +kernel) (by decide +kernel)⟩ (by decide +kernel) (by decide +kernel) (by omega) (by decide +kernel)
  obtain ⟨m5, c5, t5, p5, f5, r5⟩ := stp_l (ν := nu4) (i := 0) (j := 1) (g := 5) (s := 0) (p' := 25) t4 p4 (by omega) r4 (by omega) (by decide +kernel) (by decide +kernel) ⟨nP_of (e := 20) (by decide +kernel) (by decide +kernel), nP_of (e := 22) (by decide +kernel) (by decide +kernel), nP_of (e := 24) (by decide +kernel) (by decide +kernel)⟩ (by decide +kernel) (by decide +kernel) (by decide +kernel) (by omega) (by unfold bitF; decide +kernel) (by decide +kernel) (by omega) (by decide +kernel)
  obtain ⟨m6, c6, t6, p6, f6, r6⟩ := stp_l (ν := nu5) (i := 2) (j := 1) (g := 5) (s := 0) (p' := 32) t5 p5 (by omega) r5 (by omega) (by decide +kernel) (by decide +kernel) ⟨nP_of (e := 27) (by decide +kernel) (by decide +kernel), nP_of (e := 29) (by decide +kernel) (by decide +kernel), nP_of (e := 31) (by decide +kernel) (by decide +kernel)⟩ (by decide +kernel) (by decide +kernel) (by decide +kernel) (by omega) (by unfold bitF; decide +kernel) (by decide +kernel) (by omega) (by decide +kernel)
  obtain ⟨m7, c7, t7, p7, f7, r7⟩ := stp_l (ν := nu6) (i := 3) (j := 2) (g := 1) (s := 0) (p' := 39) t6 p6 (by omega) r6 (by omega) (by decide +kernel) (by decide +kernel) ⟨nP_of (e := 34) (by decide +kernel) (by decide +kernel), nP_of (e := 36) (by decide +kernel) (by decide +kernel), nP_of (e := 38) (by decide +kernel) (by decide +kernel)⟩ (by decide +kernel) (by decide +kernel) (by decide +kernel) (by omega) (by unfold bitF; decide +kernel) (by decide +kernel) (by omega) (by decide +kernel)
  obtain ⟨m8, c8, t8, p8, f8, r8⟩ := stp_l (ν := nu7) (i := 1) (j := 0) (g := 2) (s := 0) (p' := 46) t7 p7 (by omega) r7 (by omega) (by decide +kernel) (by decide +kernel) ⟨nP_of (e := 41) (by decide +kernel) (by decide +kernel), nP_of (e := 43) (by decide +kernel) (by decide +kernel), nP_of (e := 45) (by decide +kernel) (by decide +kernel)⟩ (by decide +kernel) (by decide +kernel) (by decide +kernel) (by omega) (by unfold bitF; decide +kernel) (by decide +kernel) (by omega) (by decide +kernel)
  refine ⟨m8, c_X3_firstFaultE (by omega) ?_, f0.tr (f1.tr (f2.tr (f3.tr (f4.tr (f5.tr (f6.tr (f7.tr f8))))))), r8⟩
  have z : AW shC mX3_firstFault 25 [some (.ref 104), some (.int (nI 46)), some (.int (nI 8)), some (.int (nI 39))] [] m8 (fun r u => r = -4 ∧ m8 = u) := l_ff_end t8 p8 (by omega) (by omega) rfl
  exact l_ff_go (it := 0) t0 p0 (by omega) (by omega) (by omega) c1 (l_ff_go t1 p1 (by omega) (by omega) (by omega) c2 (l_ff_go t2 p2 (by omega) (by omega) (by omega) c3 (l_ff_go t3 p3 (by omega) (by omega) (by omega) c4 (l_ff_go t4 p4 (by omega) (by omega) (by omega) c5 (l_ff_go t5 p5 (by omega) (by omega) (by omega) c6 (l_ff_go t6 p6 (by omega) (by omega) (by omega) c7 (l_ff_go t7 p7 (by omega) (by omega) (by omega) c8 z)))))))
