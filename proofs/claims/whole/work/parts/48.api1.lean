/-! what holds between the two objects, and what a call of both must do -/
def TXr (μ ν : Mem) : Prop := ∃ l, l ≤ 200 ∧ μ 0 1 = nI l ∧ ν 0 0 = nI l ∧ ∀ k, k < l → ∃ a, 32 ≤ a ∧ a ≤ 126 ∧ μ 1 k = nI a ∧ ν 1 k = nI a
def pst (j : Nat) : Nat := 107 + 51 * j
def PSr (μ ν : Mem) (N D : Nat) : Prop := ∃ c p, μ 0 6 = nI c ∧ ν 0 9 = nI c ∧ c ≤ 4 ∧ μ 0 7 = nI p ∧ p < 4 ∧ ∀ j, j < c → ∃ t, t ≤ 9999 ∧ NB μ (pst ((p + 4 - c + j) % 4)) (upA ν 2 (ν 3)) (440 * j) N t D
def BLr (μ : Mem) : Prop := BLn μ 2 ∧ BLn μ 53 ∧ ∀ j, j < 4 → BLn μ (pst j)
def GR (μ ν : Mem) (D : Nat) : Prop := ∃ N t, NB μ 2 ν 0 N t D ∧ t ≤ 9999 ∧ PSr μ ν N D ∧ TXr μ ν ∧ BLr μ
def API (mc mr : Mt) (vs : List Value) (μ ν : Mem) (D : Nat) : Prop := ∃ (U V : Int32 → Mem → Prop), Con shC mc (.ref 0 :: vs) μ U ∧ Con shM mr (.ref 0 :: vs) ν V ∧ ∀ r u s v, U r u → V s v → r = s ∧ GR u v D
theorem API.of {mc mr : Mt} {vs : List Value} {μ ν : Mem} {D : Nat} (h : ∃ (a : Int32) (U V : Mem → Prop), Con shC mc (.ref 0 :: vs) μ (fun r u => r = a ∧ U u) ∧ Con shM mr (.ref 0 :: vs) ν (fun r v => r = a ∧ V v) ∧ ∀ u v, U u → V v → GR u v D) : API mc mr vs μ ν D := by
  obtain ⟨a, U, V, h1, h2, h3⟩ := h
  exact ⟨_, _, h1, h2, fun r u s v q1 q2 => ⟨q1.1.trans q2.1.symm, h3 u v q1.2 q2.2⟩⟩
theorem API.same {mc mr : Mt} {vs : List Value} {μ ν : Mem} {D : Nat} {a : Int32} (hG : GR μ ν D) (h1 : Con shC mc (.ref 0 :: vs) μ (fun r u => r = a ∧ μ = u)) (h2 : Con shM mr (.ref 0 :: vs) ν (fun r v => r = a ∧ ν = v)) : API mc mr vs μ ν D :=
  API.of ⟨a, (μ = ·), (ν = ·), h1, h2, fun u v e1 e2 => by subst e1; subst e2; exact hG⟩
theorem BLn.eq {μ u : Mem} {n : Nat} (h : ∀ x, n ≤ x → x ≤ n + 50 → u x = μ x) (hb : BLn μ n) : BLn u n := by
  intro i hi
  have := hb i hi
  rw [h (stA n i) (by unfold stA; omega) (by unfold stA; omega)]; exact this
theorem BLr.eq {μ u : Mem} (h : ∀ x, 2 ≤ x → u x = μ x) (hb : BLr μ) : BLr u :=
  ⟨hb.1.eq (fun x h1 _ => h x h1), hb.2.1.eq (fun x h1 _ => h x (by omega)), fun j hj => (hb.2.2 j hj).eq (fun x h1 _ => h x (by unfold pst at h1; omega))⟩
theorem NB.eq {μ u ν v : Mem} {n b N t D D' : Nat} (h : ∀ x, n ≤ x → x ≤ n + 50 → u x = μ x) (h0 : ∀ k, 2 ≤ k → k ≤ 6 → v 0 k = ν 0 k) (hf : ∀ j, j < 440 → v 2 (b + j) = ν 2 (b + j)) (hD : D ≤ D') (hR : NB μ n ν b N t D) : NB u n v b N t D' := NB.mv (NCP.eq h) h0 hf hD hR
theorem PSr.eq {μ u ν v : Mem} {N D D' : Nat} (h : ∀ x, 107 ≤ x → u x = μ x) (e6 : u 0 6 = μ 0 6) (e7 : u 0 7 = μ 0 7) (h0 : ∀ k, 2 ≤ k → k ≤ 6 → v 0 k = ν 0 k) (e9 : v 0 9 = ν 0 9) (h3 : v 3 = ν 3) (hD : D ≤ D') (hP : PSr μ ν N D) : PSr u v N D' := by
  obtain ⟨c, p, c1, c2, c3, p1, p2, hj⟩ := hP
  refine ⟨c, p, e6.trans c1, e9.trans c2, c3, e7.trans p1, p2, fun j hc => ?_⟩
  obtain ⟨t, t1, t2⟩ := hj j hc
  refine ⟨t, t1, NB.eq (fun x h1 _ => h x (by unfold pst at h1; omega)) (fun k k1 k2 => ?_) (fun i _ => ?_) hD t2⟩
  · rw [upA_ne (by omega), upA_ne (by omega)]; exact h0 k k1 k2
  · rw [upA_at, upA_at, h3]
theorem chr_id {a : Nat} (h : a ≤ 126) : ((nI a).toUInt32 % 65536).toInt32 = nI a := by
  revert h; revert a
  have : ∀ a, a < 127 → ((nI a).toUInt32 % 65536).toInt32 = nI a := by decide +kernel
  exact fun {a} h => this a (by omega)
theorem chr_nar {a : Nat} (h : a ≤ 126) : vp_nar .char (nI a) = nI a := by rw [← chr_id h]; exact pk_vc _
set_option maxHeartbeats 4000000 in
set_option maxRecDepth 100000 in
theorem c_X6_writeX {μ : Mem} {c : Int32} (hc : c < 32 ∨ ¬ c ≤ 126) : Con shC mX6_write [.ref 0, .int c] μ (fun r u => r = -1 ∧ μ = u) := by
  have z0 : shC[0]? = some (6, 8, [some 1, none, some 2, some 53, some 104, some 106, none, none]) := rfl
  have hn := net_2
  obtain ⟨hn0, hn1, hn2, hnS⟩ := id hn
  refine Con.ofAW (al0 := [some (.ref 0), some (.int c)]) (by decide) rfl (Nat.le_of_ble_eq_true rfl) rfl ?_
  refine a_iload_n (pc := 0) dX6_write_0 rfl rfl ?_
  refine a_bipush (pc := 1) (v := 32) dX6_write_1 (by decide) ?_
  refine a_icmp_lt (pc := 3) (tgt := 12) dX6_write_3 (by decide) (fun c_3 => ?_) (fun c_3 => ?_)
  · refine a_iconst (pc := 12) (v := -1) dX6_write_12 (by decide) ?_
    refine a_iret (pc := 13) rfl dX6_write_13 ?_
    exact ⟨rfl, rfl⟩
  · refine a_iload_n (pc := 6) dX6_write_6 rfl rfl ?_
    refine a_bipush (pc := 7) (v := 126) dX6_write_7 (by decide) ?_
    refine a_icmp_le (pc := 9) (tgt := 14) dX6_write_9 (by decide) (fun c_9 => ?_) (fun c_9 => ?_)
    · exact absurd c_9 (by simp_all)
    · refine a_iconst (pc := 12) (v := -1) dX6_write_12 (by decide) ?_
      refine a_iret (pc := 13) rfl dX6_write_13 ?_
      exact ⟨rfl, rfl⟩

set_option maxHeartbeats 4000000 in
set_option maxRecDepth 100000 in
theorem c_X6_writeF {μ : Mem} {c : Int32} (h1 : ¬ c < 32) (h2 : c ≤ 126) (h3 : μ 0 1 = nI 200) : Con shC mX6_write [.ref 0, .int c] μ (fun r u => r = -3 ∧ μ = u) := by
  have z0 : shC[0]? = some (6, 8, [some 1, none, some 2, some 53, some 104, some 106, none, none]) := rfl
  have hn := net_2
  obtain ⟨hn0, hn1, hn2, hnS⟩ := id hn
  refine Con.ofAW (al0 := [some (.ref 0), some (.int c)]) (by decide) rfl (Nat.le_of_ble_eq_true rfl) rfl ?_
  refine a_iload_n (pc := 0) dX6_write_0 rfl rfl ?_
  refine a_bipush (pc := 1) (v := 32) dX6_write_1 (by decide) ?_
  refine a_icmp_lt (pc := 3) (tgt := 12) dX6_write_3 (by decide) (fun c_3 => ?_) (fun c_3 => ?_)
  · exact absurd c_3 h1
  · refine a_iload_n (pc := 6) dX6_write_6 rfl rfl ?_
    refine a_bipush (pc := 7) (v := 126) dX6_write_7 (by decide) ?_
    refine a_icmp_le (pc := 9) (tgt := 14) dX6_write_9 (by decide) (fun c_9 => ?_) (fun c_9 => ?_)
    · refine a_aload_n (pc := 14) dX6_write_14 rfl rfl ?_
      refine a_geti (pc := 15) fl_X6_48 (by assumption) (by decide) (by rfl) dX6_write_15 ?_
      refine a_top (y := nI 200) h3 ?_
      refine a_sipush (pc := 18) (v := 200) dX6_write_18 (by decide) ?_
      refine a_icmp_lt (pc := 21) (tgt := 27) dX6_write_21 (by decide) (fun c_21 => ?_) (fun c_21 => ?_)
      · exact absurd c_21 (by decide)
      · refine a_bipush (pc := 24) (v := -3) dX6_write_24 (by decide) ?_
        refine a_iret (pc := 26) rfl dX6_write_26 ?_
        exact ⟨rfl, rfl⟩
    · exact absurd h2 c_9

set_option maxHeartbeats 4000000 in
set_option maxRecDepth 100000 in
theorem c_X6_write {μ : Mem} {a l : Nat} (h1 : 32 ≤ a) (h2 : a ≤ 126) (hl : l < 200) (h3 : μ 0 1 = nI l) : Con shC mX6_write [.ref 0, .int (nI a)] μ (fun r u => r = nI (l + 1) ∧ u = up2 (up2 μ 1 l (nI a)) 0 1 (nI (l + 1))) := by
  have z0 : shC[0]? = some (6, 8, [some 1, none, some 2, some 53, some 104, some 106, none, none]) := rfl
  have hn := net_2
  obtain ⟨hn0, hn1, hn2, hnS⟩ := id hn
  have z1 : shC[1]? = some (101, 200, []) := rfl
  refine Con.ofAW (al0 := [some (.ref 0), some (.int (nI a))]) (by decide) rfl (Nat.le_of_ble_eq_true rfl) rfl ?_
  refine a_iload_n (pc := 0) dX6_write_0 rfl rfl ?_
  refine a_bipush (pc := 1) (v := 32) dX6_write_1 (by decide) ?_
  refine a_icmp_lt (pc := 3) (tgt := 12) dX6_write_3 (by decide) (fun c_3 => ?_) (fun c_3 => ?_)
  · exact absurd c_3 (nI_nlt (b := 32) (by omega) (by omega))
  · refine a_iload_n (pc := 6) dX6_write_6 rfl rfl ?_
    refine a_bipush (pc := 7) (v := 126) dX6_write_7 (by decide) ?_
    refine a_icmp_le (pc := 9) (tgt := 14) dX6_write_9 (by decide) (fun c_9 => ?_) (fun c_9 => ?_)
    · refine a_aload_n (pc := 14) dX6_write_14 rfl rfl ?_
      refine a_geti (pc := 15) fl_X6_48 (by assumption) (by decide) (by rfl) dX6_write_15 ?_
      refine a_top (y := nI l) h3 ?_
      refine a_sipush (pc := 18) (v := 200) dX6_write_18 (by decide) ?_
      refine a_icmp_lt (pc := 21) (tgt := 27) dX6_write_21 (by decide) (fun c_21 => ?_) (fun c_21 => ?_)
      · refine a_aload_n (pc := 27) dX6_write_27 rfl rfl ?_
        refine a_getr (pc := 28) fl_X6_9 (by assumption) (by decide) (by rfl) dX6_write_28 ?_
        refine a_aload_n (pc := 31) dX6_write_31 rfl rfl ?_
        refine a_geti (pc := 32) fl_X6_48 (by assumption) (by decide) (by rfl) dX6_write_32 ?_
        refine a_top (y := nI l) h3 ?_
        refine a_iload_n (pc := 35) dX6_write_35 rfl rfl ?_
        refine a_i2c (pc := 36) dX6_write_36 ?_
        refine a_top (y := nI a) (chr_id h2) ?_
        refine a_cast (pc := 37)  (by assumption) rfl (by omega) (by decide) (chr_nar h2) dX6_write_37 ?_
        refine a_aload_n (pc := 38) dX6_write_38 rfl rfl ?_
        refine a_dup (pc := 39) dX6_write_39 rfl ?_
        refine a_geti (pc := 40) fl_X6_48 (by assumption) (by decide) (by rfl) dX6_write_40 ?_
        refine a_top (y := nI l) (by rw [up2_ne (by omega)]; exact h3) ?_
        refine a_iconst (pc := 43) (v := 1) dX6_write_43 (by decide) ?_
        refine a_iaddN (pc := 44) (a := _) (b := 1) rfl rfl dX6_write_44 ?_
        refine a_puti (pc := 45) fp_X6_48 (by assumption) (by decide) (by rfl) dX6_write_45 ?_
        refine a_aload_n (pc := 48) dX6_write_48 rfl rfl ?_
        refine a_geti (pc := 49) fl_X6_48 (by assumption) (by decide) (by rfl) dX6_write_49 ?_
        refine a_top (y := nI (l + 1)) up2_at ?_
        refine a_iret (pc := 52) rfl dX6_write_52 ?_
        exact ⟨rfl, rfl⟩
      · exact absurd (nI_lt (b := 200) hl (by omega)) c_21
    · exact absurd (nI_le (b := 126) (by omega) (by omega)) c_9

set_option maxHeartbeats 4000000 in
set_option maxRecDepth 100000 in
theorem c_X6_wipe {μ : Mem} : Con shC mX6_wipe [.ref 0] μ (fun r u => r = μ 0 1 ∧ u = up2 μ 0 1 0) := by
  have z0 : shC[0]? = some (6, 8, [some 1, none, some 2, some 53, some 104, some 106, none, none]) := rfl
  have hn := net_2
  obtain ⟨hn0, hn1, hn2, hnS⟩ := id hn
  refine Con.ofAW (al0 := [some (.ref 0), none]) (by decide) rfl (Nat.le_of_ble_eq_true rfl) rfl ?_
  refine a_aload_n (pc := 0) dX6_wipe_0 rfl rfl ?_
  refine a_geti (pc := 1) fl_X6_48 (by assumption) (by decide) (by rfl) dX6_wipe_1 ?_
  refine a_istore_n (pc := 4) (al' := [some (.ref _), some (.int _)]) dX6_wipe_4 rfl (by decide) rfl rfl ?_
  refine a_aload_n (pc := 5) dX6_wipe_5 rfl rfl ?_
  refine a_iconst (pc := 6) (v := 0) dX6_wipe_6 (by decide) ?_
  refine a_puti (pc := 7) fp_X6_48 (by assumption) (by decide) (by rfl) dX6_wipe_7 ?_
  refine a_iload_n (pc := 10) dX6_wipe_10 rfl rfl ?_
  refine a_iret (pc := 11) rfl dX6_wipe_11 ?_
  exact ⟨rfl, rfl⟩

set_option maxHeartbeats 4000000 in
set_option maxRecDepth 100000 in
theorem c_X7_writeX {ν : Mem} {c : Int32} (hc : c < 32 ∨ ¬ c ≤ 126) : Con shM mX7_write [.ref 0, .int c] ν (fun r u => r = -1 ∧ ν = u) := by
  have m0 : shM[0]? = some (7, 18, [none, some 1, none, none, none, none, none, some 2, some 3, none, none, some 4, none, none, some 5, some 6, some 7, some 8]) := rfl
  have m1 : shM[1]? = some (100, 200, []) := rfl
  have m2 : shM[2]? = some (100, 1320, []) := rfl
  have m3 : shM[3]? = some (100, 1760, []) := rfl
  have m4 : shM[4]? = some (100, 4, []) := rfl
  have m5 : shM[5]? = some (100, 6, []) := rfl
  have m6 : shM[6]? = some (100, 6, []) := rfl
  have m7 : shM[7]? = some (100, 6, []) := rfl
  have m8 : shM[8]? = some (100, 6, []) := rfl
  refine Con.ofAW (al0 := [some (.ref 0), some (.int c)]) (by decide) rfl (Nat.le_of_ble_eq_true rfl) rfl ?_
  refine a_iload_n (pc := 0) dX7_write_0 rfl rfl ?_
  refine a_bipush (pc := 1) (v := 32) dX7_write_1 (by decide) ?_
  refine a_icmp_lt (pc := 3) (tgt := 12) dX7_write_3 (by decide) (fun c_3 => ?_) (fun c_3 => ?_)
  · refine a_iconst (pc := 12) (v := -1) dX7_write_12 (by decide) ?_
    refine a_iret (pc := 13) rfl dX7_write_13 ?_
    exact ⟨rfl, rfl⟩
  · refine a_iload_n (pc := 6) dX7_write_6 rfl rfl ?_
    refine a_bipush (pc := 7) (v := 126) dX7_write_7 (by decide) ?_
    refine a_icmp_le (pc := 9) (tgt := 14) dX7_write_9 (by decide) (fun c_9 => ?_) (fun c_9 => ?_)
    · exact absurd c_9 (by simp_all)
    · refine a_iconst (pc := 12) (v := -1) dX7_write_12 (by decide) ?_
      refine a_iret (pc := 13) rfl dX7_write_13 ?_
      exact ⟨rfl, rfl⟩

set_option maxHeartbeats 4000000 in
set_option maxRecDepth 100000 in
theorem c_X7_writeF {ν : Mem} {c : Int32} (h1 : ¬ c < 32) (h2 : c ≤ 126) (h3 : ν 0 0 = nI 200) : Con shM mX7_write [.ref 0, .int c] ν (fun r u => r = -3 ∧ ν = u) := by
  have m0 : shM[0]? = some (7, 18, [none, some 1, none, none, none, none, none, some 2, some 3, none, none, some 4, none, none, some 5, some 6, some 7, some 8]) := rfl
  have m1 : shM[1]? = some (100, 200, []) := rfl
  have m2 : shM[2]? = some (100, 1320, []) := rfl
  have m3 : shM[3]? = some (100, 1760, []) := rfl
  have m4 : shM[4]? = some (100, 4, []) := rfl
  have m5 : shM[5]? = some (100, 6, []) := rfl
  have m6 : shM[6]? = some (100, 6, []) := rfl
  have m7 : shM[7]? = some (100, 6, []) := rfl
  have m8 : shM[8]? = some (100, 6, []) := rfl
  refine Con.ofAW (al0 := [some (.ref 0), some (.int c)]) (by decide) rfl (Nat.le_of_ble_eq_true rfl) rfl ?_
  refine a_iload_n (pc := 0) dX7_write_0 rfl rfl ?_
  refine a_bipush (pc := 1) (v := 32) dX7_write_1 (by decide) ?_
  refine a_icmp_lt (pc := 3) (tgt := 12) dX7_write_3 (by decide) (fun c_3 => ?_) (fun c_3 => ?_)
  · exact absurd c_3 h1
  · refine a_iload_n (pc := 6) dX7_write_6 rfl rfl ?_
    refine a_bipush (pc := 7) (v := 126) dX7_write_7 (by decide) ?_
    refine a_icmp_le (pc := 9) (tgt := 14) dX7_write_9 (by decide) (fun c_9 => ?_) (fun c_9 => ?_)
    · refine a_aload_n (pc := 14) dX7_write_14 rfl rfl ?_
      refine a_geti (pc := 15) fl_X7_81 (by assumption) (by decide) (by rfl) dX7_write_15 ?_
      refine a_top (y := nI 200) h3 ?_
      refine a_sipush (pc := 18) (v := 200) dX7_write_18 (by decide) ?_
      refine a_icmp_ne (pc := 21) (tgt := 27) dX7_write_21 (by decide) (fun c_21 => ?_) (fun c_21 => ?_)
      · exact absurd c_21 (by decide)
      · refine a_bipush (pc := 24) (v := -3) dX7_write_24 (by decide) ?_
        refine a_iret (pc := 26) rfl dX7_write_26 ?_
        exact ⟨rfl, rfl⟩
    · exact absurd h2 c_9

set_option maxHeartbeats 4000000 in
set_option maxRecDepth 100000 in
theorem c_X7_write {ν : Mem} {a l : Nat} (h1 : 32 ≤ a) (h2 : a ≤ 126) (hl : l < 200) (h3 : ν 0 0 = nI l) : Con shM mX7_write [.ref 0, .int (nI a)] ν (fun r u => r = nI (l + 1) ∧ u = up2 (up2 ν 1 l (nI a)) 0 0 (nI (l + 1))) := by
  have m0 : shM[0]? = some (7, 18, [none, some 1, none, none, none, none, none, some 2, some 3, none, none, some 4, none, none, some 5, some 6, some 7, some 8]) := rfl
  have m1 : shM[1]? = some (100, 200, []) := rfl
  have m2 : shM[2]? = some (100, 1320, []) := rfl
  have m3 : shM[3]? = some (100, 1760, []) := rfl
  have m4 : shM[4]? = some (100, 4, []) := rfl
  have m5 : shM[5]? = some (100, 6, []) := rfl
  have m6 : shM[6]? = some (100, 6, []) := rfl
  have m7 : shM[7]? = some (100, 6, []) := rfl
  have m8 : shM[8]? = some (100, 6, []) := rfl
  refine Con.ofAW (al0 := [some (.ref 0), some (.int (nI a))]) (by decide) rfl (Nat.le_of_ble_eq_true rfl) rfl ?_
  refine a_iload_n (pc := 0) dX7_write_0 rfl rfl ?_
  refine a_bipush (pc := 1) (v := 32) dX7_write_1 (by decide) ?_
  refine a_icmp_lt (pc := 3) (tgt := 12) dX7_write_3 (by decide) (fun c_3 => ?_) (fun c_3 => ?_)
  · exact absurd c_3 (nI_nlt (b := 32) (by omega) (by omega))
  · refine a_iload_n (pc := 6) dX7_write_6 rfl rfl ?_
    refine a_bipush (pc := 7) (v := 126) dX7_write_7 (by decide) ?_
    refine a_icmp_le (pc := 9) (tgt := 14) dX7_write_9 (by decide) (fun c_9 => ?_) (fun c_9 => ?_)
    · refine a_aload_n (pc := 14) dX7_write_14 rfl rfl ?_
      refine a_geti (pc := 15) fl_X7_81 (by assumption) (by decide) (by rfl) dX7_write_15 ?_
      refine a_top (y := nI l) h3 ?_
      refine a_sipush (pc := 18) (v := 200) dX7_write_18 (by decide) ?_
      refine a_icmp_ne (pc := 21) (tgt := 27) dX7_write_21 (by decide) (fun c_21 => ?_) (fun c_21 => ?_)
      · refine a_aload_n (pc := 27) dX7_write_27 rfl rfl ?_
        refine a_getr (pc := 28) fl_X7_7 (by assumption) (by decide) (by rfl) dX7_write_28 ?_
        refine a_aload_n (pc := 31) dX7_write_31 rfl rfl ?_
        refine a_geti (pc := 32) fl_X7_81 (by assumption) (by decide) (by rfl) dX7_write_32 ?_
        refine a_top (y := nI l) h3 ?_
        refine a_iload_n (pc := 35) dX7_write_35 rfl rfl ?_
        refine a_iast (pc := 36)  (by assumption) rfl (by omega) (by decide) dX7_write_36 ?_
        refine a_aload_n (pc := 37) dX7_write_37 rfl rfl ?_
        refine a_dup (pc := 38) dX7_write_38 rfl ?_
        refine a_geti (pc := 39) fl_X7_81 (by assumption) (by decide) (by rfl) dX7_write_39 ?_
        refine a_top (y := nI l) (by rw [up2_ne (by omega)]; exact h3) ?_
        refine a_iconst (pc := 42) (v := 1) dX7_write_42 (by decide) ?_
        refine a_iaddN (pc := 43) (a := _) (b := 1) rfl rfl dX7_write_43 ?_
        refine a_puti (pc := 44) fp_X7_81 (by assumption) (by decide) (by rfl) dX7_write_44 ?_
        refine a_aload_n (pc := 47) dX7_write_47 rfl rfl ?_
        refine a_geti (pc := 48) fl_X7_81 (by assumption) (by decide) (by rfl) dX7_write_48 ?_
        refine a_top (y := nI (l + 1)) up2_at ?_
        refine a_iret (pc := 51) rfl dX7_write_51 ?_
        exact ⟨rfl, rfl⟩
      · exact absurd c_21 (nI_ne (b := 200) (by omega) (by omega) (by omega))
    · exact absurd (nI_le (b := 126) (by omega) (by omega)) c_9

set_option maxHeartbeats 4000000 in
set_option maxRecDepth 100000 in
theorem c_X7_wipe {ν : Mem} : Con shM mX7_wipe [.ref 0] ν (fun r u => r = ν 0 0 ∧ u = up2 ν 0 0 0) := by
  have m0 : shM[0]? = some (7, 18, [none, some 1, none, none, none, none, none, some 2, some 3, none, none, some 4, none, none, some 5, some 6, some 7, some 8]) := rfl
  have m1 : shM[1]? = some (100, 200, []) := rfl
  have m2 : shM[2]? = some (100, 1320, []) := rfl
  have m3 : shM[3]? = some (100, 1760, []) := rfl
  have m4 : shM[4]? = some (100, 4, []) := rfl
  have m5 : shM[5]? = some (100, 6, []) := rfl
  have m6 : shM[6]? = some (100, 6, []) := rfl
  have m7 : shM[7]? = some (100, 6, []) := rfl
  have m8 : shM[8]? = some (100, 6, []) := rfl
  refine Con.ofAW (al0 := [some (.ref 0), none]) (by decide) rfl (Nat.le_of_ble_eq_true rfl) rfl ?_
  refine a_aload_n (pc := 0) dX7_wipe_0 rfl rfl ?_
  refine a_geti (pc := 1) fl_X7_81 (by assumption) (by decide) (by rfl) dX7_wipe_1 ?_
  refine a_istore_n (pc := 4) (al' := [some (.ref _), some (.int _)]) dX7_wipe_4 rfl (by decide) rfl rfl ?_
  refine a_aload_n (pc := 5) dX7_wipe_5 rfl rfl ?_
  refine a_iconst (pc := 6) (v := 0) dX7_wipe_6 (by decide) ?_
  refine a_puti (pc := 7) fp_X7_81 (by assumption) (by decide) (by rfl) dX7_wipe_7 ?_
  refine a_iload_n (pc := 10) dX7_wipe_10 rfl rfl ?_
  refine a_iret (pc := 11) rfl dX7_wipe_11 ?_
  exact ⟨rfl, rfl⟩

theorem api_write {μ ν : Mem} {D : Nat} (c : Int32) (hG : GR μ ν D) : API mX6_write mX7_write [.int c] μ ν D := by
  by_cases hc : c < 32 ∨ ¬ c ≤ 126
  · exact API.same hG (c_X6_writeX hc) (c_X7_writeX hc)
  · have h1 : ¬ c < 32 := fun h => hc (Or.inl h)
    have h2 : c ≤ 126 := Classical.byContradiction fun h => hc (Or.inr h)
    obtain ⟨N, t, hN, ht, hP, ⟨l, l1, l2, l3, l4⟩, hB⟩ := id hG
    rcases Nat.lt_or_ge l 200 with q | q
    · have h0 : ¬ c < 0 := fun h => h1 (Int32.lt_trans h (by decide))
      obtain ⟨a, a1, rfl⟩ := nI_of h0
      have a2 : a ≤ 126 := (nI_leI (b := 126) (by omega) (by omega)).mp h2
      have a3 : 32 ≤ a := Nat.le_of_not_lt fun h => h1 (nI_lt (b := 32) h (by omega))
      refine API.of ⟨nI (l + 1), _, _, c_X6_write a3 a2 q l2, c_X7_write a3 a2 q l3, ?_⟩
      rintro u v rfl rfl
      have e : ∀ x, 2 ≤ x → up2 (up2 μ 1 l (nI a)) 0 1 (nI (l + 1)) x = μ x := fun x hx => by rw [up2_ne (by omega), up2_ne (by omega)]
      have e' : ∀ x, 2 ≤ x → up2 (up2 ν 1 l (nI a)) 0 0 (nI (l + 1)) x = ν x := fun x hx => by rw [up2_ne (by omega), up2_ne (by omega)]
      have e0 : ∀ k, 1 ≤ k → up2 (up2 ν 1 l (nI a)) 0 0 (nI (l + 1)) 0 k = ν 0 k := fun k hk => by rw [up2_k (by omega), up2_ne (by omega)]
      refine ⟨N, t, NB.eq (fun x h1 _ => e x h1) (fun k k1 _ => e0 k (by omega)) (fun j _ => by rw [e' 2 (by omega)]) (Nat.le_refl _) hN, ht, PSr.eq (fun x h1 => e x (by omega)) (by rw [up2_k (by omega), up2_ne (by omega)]) (by rw [up2_k (by omega), up2_ne (by omega)]) (fun k k1 _ => e0 k (by omega)) (e0 9 (by omega)) (e' 3 (by omega)) (Nat.le_refl _) hP, ⟨l + 1, by omega, up2_at, up2_at, fun k hk => ?_⟩, hB.eq e⟩
      rw [show up2 (up2 μ 1 l (nI a)) 0 1 (nI (l + 1)) 1 = up2 μ 1 l (nI a) 1 from up2_ne (by omega), show up2 (up2 ν 1 l (nI a)) 0 0 (nI (l + 1)) 1 = up2 ν 1 l (nI a) 1 from up2_ne (by omega)]
      by_cases hkl : k = l
      · subst hkl; exact ⟨a, a3, a2, up2_at, up2_at⟩
      · rw [show up2 μ 1 l (nI a) 1 k = μ 1 k from up2_k hkl, show up2 ν 1 l (nI a) 1 k = ν 1 k from up2_k hkl]; exact l4 k (by omega)
    · have e : l = 200 := by omega
      subst e
      exact API.same hG (c_X6_writeF h1 h2 l2) (c_X7_writeF h1 h2 l3)
theorem api_wipe {μ ν : Mem} {D : Nat} (hG : GR μ ν D) : API mX6_wipe mX7_wipe [] μ ν D := by
  obtain ⟨N, t, hN, ht, hP, ⟨l, l1, l2, l3, l4⟩, hB⟩ := id hG
  refine API.of ⟨nI l, _, _, Con.mono c_X6_wipe (fun r u h => ⟨h.1.trans l2, h.2⟩), Con.mono c_X7_wipe (fun r u h => ⟨h.1.trans l3, h.2⟩), ?_⟩
  rintro u v rfl rfl
  refine ⟨N, t, NB.eq (fun x h1 _ => up2_ne (by omega)) (fun k k1 _ => up2_k (by omega)) (fun j _ => by rw [up2_ne (by omega)]) (Nat.le_refl _) hN, ht, PSr.eq (fun x h1 => up2_ne (by omega)) (up2_k (by omega)) (up2_k (by omega)) (fun k k1 _ => up2_k (by omega)) (up2_k (by omega)) (up2_ne (by omega)) (Nat.le_refl _) hP, ⟨0, by omega, up2_at, up2_at, fun k hk => by omega⟩, hB.eq (fun x hx => up2_ne (by omega))⟩
set_option maxHeartbeats 4000000 in
set_option maxRecDepth 100000 in
theorem c_X6_station0 {μ : Mem} {i N : Nat} (h0 : μ 2 0 = nI N) (hN : N ≤ 6) (hiN : i < N) : Con shC mX6_station [.ref 0, .int (nI i), .int 0] μ (fun r u => r = μ ((stA 2 i) + 1) 0 ∧ μ = u) := by
  have z0 : shC[0]? = some (6, 8, [some 1, none, some 2, some 53, some 104, some 106, none, none]) := rfl
  have hn := net_2
  obtain ⟨hn0, hn1, hn2, hnS⟩ := id net_2
  have hi : i < 6 := by omega
  have ws := hnS i hi
  have w0 : shC[(stA 2 i)]? = _ := ws.1
  have w1 : shC[(stA 2 i) + 1]? = some (0, 3, [none, some ((stA 2 i) + 2), some ((stA 2 i) + 3)]) := ws.2.1.1
  have w2 : shC[(stA 2 i) + 2]? = some (100, 6, []) := ws.2.1.2.1
  have w3 : shC[(stA 2 i) + 3]? = some (100, 6, []) := ws.2.1.2.2
  have w4 : shC[(stA 2 i) + 4]? = some (1, 2, [none, some ((stA 2 i) + 5)]) := ws.2.2.1.1
  have w5 : shC[(stA 2 i) + 5]? = some (100, 24, []) := ws.2.2.1.2
  have w6 : shC[(stA 2 i) + 6]? = some (4, 4, [none, none, none, none]) := ws.2.2.2.1
  have w7 : shC[(stA 2 i) + 7]? = some (4, 4, [none, none, none, none]) := ws.2.2.2.2
  refine Con.ofAW (al0 := [some (.ref 0), some (.int (nI i)), some (.int 0), none]) (by decide) rfl (Nat.le_of_ble_eq_true rfl) rfl ?_
  refine a_aload_n (pc := 0) dX6_station_0 rfl rfl ?_
  refine a_iload_n (pc := 1) dX6_station_1 rfl rfl ?_
  refine a_callI1 (pc := 2) ck_X6_129 ⟨(Nat.le_of_ble_eq_true rfl), (Nat.le_of_ble_eq_true rfl)⟩ (by assumption) (by decide) (Nat.le_of_ble_eq_true rfl) dX6_station_2 rfl (c_X6_isStation h0 (by omega)) ?_
  rintro r u ⟨hr, rfl⟩
  have hr1 : r = 1 := by
    rcases hr with q | q
    · exact q.1
    · exact absurd ⟨i, hiN, rfl⟩ q.2
  subst hr1
  refine a_if_ne (pc := 5) (tgt := 10) dX6_station_5 (by decide) (fun c_5 => ?_) (fun c_5 => ?_)
  · refine a_aload_n (pc := 10) dX6_station_10 rfl rfl ?_
    refine a_getr (pc := 11) fl_X6_16 (by assumption) (by decide) (by rfl) dX6_station_11 ?_
    refine a_getr (pc := 14) fl_X6_70 (by assumption) (by decide) (by rfl) dX6_station_14 ?_
    refine a_iload_n (pc := 17) dX6_station_17 rfl rfl ?_
    refine a_aald2 (pc := 18)  (by assumption) rfl (by omega) (by decide) (all_at (by omega)) dX6_station_18 ?_
    refine a_astore_n (pc := 19) (al' := [some (.ref _), some (.int _), some (.int _), some (.ref _)]) dX6_station_19 rfl (by decide) rfl rfl ?_
    refine a_iload_n (pc := 20) dX6_station_20 rfl rfl ?_
    refine a_tableIn (pc := 21) (off := 63) (tgt := 84) dX6_station_21 (by decide) (by decide) (by decide) (by decide) ?_
    refine a_aload_n (pc := 84) dX6_station_84 rfl rfl ?_
    refine a_getr (pc := 85) fl_X6_74 (by assumption) (by decide) (by rfl) dX6_station_85 ?_
    refine a_geti (pc := 88) fl_X6_80 (by assumption) (by decide) (by rfl) dX6_station_88 ?_
    refine a_iret (pc := 91) rfl dX6_station_91 ?_
    exact ⟨rfl, rfl⟩
  · exact absurd c_5 (by decide)

set_option maxHeartbeats 4000000 in
set_option maxRecDepth 100000 in
theorem c_X6_station1 {μ : Mem} {i N : Nat} (h0 : μ 2 0 = nI N) (hN : N ≤ 6) (hiN : i < N) : Con shC mX6_station [.ref 0, .int (nI i), .int 1] μ (fun r u => r = μ (stA 2 i) 1 ∧ μ = u) := by
  have z0 : shC[0]? = some (6, 8, [some 1, none, some 2, some 53, some 104, some 106, none, none]) := rfl
  have hn := net_2
  obtain ⟨hn0, hn1, hn2, hnS⟩ := id net_2
  have hi : i < 6 := by omega
  have ws := hnS i hi
  have w0 : shC[(stA 2 i)]? = _ := ws.1
  have w1 : shC[(stA 2 i) + 1]? = some (0, 3, [none, some ((stA 2 i) + 2), some ((stA 2 i) + 3)]) := ws.2.1.1
  have w2 : shC[(stA 2 i) + 2]? = some (100, 6, []) := ws.2.1.2.1
  have w3 : shC[(stA 2 i) + 3]? = some (100, 6, []) := ws.2.1.2.2
  have w4 : shC[(stA 2 i) + 4]? = some (1, 2, [none, some ((stA 2 i) + 5)]) := ws.2.2.1.1
  have w5 : shC[(stA 2 i) + 5]? = some (100, 24, []) := ws.2.2.1.2
  have w6 : shC[(stA 2 i) + 6]? = some (4, 4, [none, none, none, none]) := ws.2.2.2.1
  have w7 : shC[(stA 2 i) + 7]? = some (4, 4, [none, none, none, none]) := ws.2.2.2.2
  refine Con.ofAW (al0 := [some (.ref 0), some (.int (nI i)), some (.int 1), none]) (by decide) rfl (Nat.le_of_ble_eq_true rfl) rfl ?_
  refine a_aload_n (pc := 0) dX6_station_0 rfl rfl ?_
  refine a_iload_n (pc := 1) dX6_station_1 rfl rfl ?_
  refine a_callI1 (pc := 2) ck_X6_129 ⟨(Nat.le_of_ble_eq_true rfl), (Nat.le_of_ble_eq_true rfl)⟩ (by assumption) (by decide) (Nat.le_of_ble_eq_true rfl) dX6_station_2 rfl (c_X6_isStation h0 (by omega)) ?_
  rintro r u ⟨hr, rfl⟩
  have hr1 : r = 1 := by
    rcases hr with q | q
    · exact q.1
    · exact absurd ⟨i, hiN, rfl⟩ q.2
  subst hr1
  refine a_if_ne (pc := 5) (tgt := 10) dX6_station_5 (by decide) (fun c_5 => ?_) (fun c_5 => ?_)
  · refine a_aload_n (pc := 10) dX6_station_10 rfl rfl ?_
    refine a_getr (pc := 11) fl_X6_16 (by assumption) (by decide) (by rfl) dX6_station_11 ?_
    refine a_getr (pc := 14) fl_X6_70 (by assumption) (by decide) (by rfl) dX6_station_14 ?_
    refine a_iload_n (pc := 17) dX6_station_17 rfl rfl ?_
    refine a_aald2 (pc := 18)  (by assumption) rfl (by omega) (by decide) (all_at (by omega)) dX6_station_18 ?_
    refine a_astore_n (pc := 19) (al' := [some (.ref _), some (.int _), some (.int _), some (.ref _)]) dX6_station_19 rfl (by decide) rfl rfl ?_
    refine a_iload_n (pc := 20) dX6_station_20 rfl rfl ?_
    refine a_tableIn (pc := 21) (off := 71) (tgt := 92) dX6_station_21 (by decide) (by decide) (by decide) (by decide) ?_
    refine a_aload_n (pc := 92) dX6_station_92 rfl rfl ?_
    refine a_geti (pc := 93) fl_X6_132 (by assumption) (by decide) (by rfl) dX6_station_93 ?_
    refine a_iret (pc := 96) rfl dX6_station_96 ?_
    exact ⟨rfl, rfl⟩
  · exact absurd c_5 (by decide)

set_option maxHeartbeats 4000000 in
set_option maxRecDepth 100000 in
theorem c_X6_station2 {μ : Mem} {i N : Nat} (h0 : μ 2 0 = nI N) (hN : N ≤ 6) (hiN : i < N) : Con shC mX6_station [.ref 0, .int (nI i), .int 2] μ (fun r u => r = μ (stA 2 i) 2 ∧ μ = u) := by
  have z0 : shC[0]? = some (6, 8, [some 1, none, some 2, some 53, some 104, some 106, none, none]) := rfl
  have hn := net_2
  obtain ⟨hn0, hn1, hn2, hnS⟩ := id net_2
  have hi : i < 6 := by omega
  have ws := hnS i hi
  have w0 : shC[(stA 2 i)]? = _ := ws.1
  have w1 : shC[(stA 2 i) + 1]? = some (0, 3, [none, some ((stA 2 i) + 2), some ((stA 2 i) + 3)]) := ws.2.1.1
  have w2 : shC[(stA 2 i) + 2]? = some (100, 6, []) := ws.2.1.2.1
  have w3 : shC[(stA 2 i) + 3]? = some (100, 6, []) := ws.2.1.2.2
  have w4 : shC[(stA 2 i) + 4]? = some (1, 2, [none, some ((stA 2 i) + 5)]) := ws.2.2.1.1
  have w5 : shC[(stA 2 i) + 5]? = some (100, 24, []) := ws.2.2.1.2
  have w6 : shC[(stA 2 i) + 6]? = some (4, 4, [none, none, none, none]) := ws.2.2.2.1
  have w7 : shC[(stA 2 i) + 7]? = some (4, 4, [none, none, none, none]) := ws.2.2.2.2
  refine Con.ofAW (al0 := [some (.ref 0), some (.int (nI i)), some (.int 2), none]) (by decide) rfl (Nat.le_of_ble_eq_true rfl) rfl ?_
  refine a_aload_n (pc := 0) dX6_station_0 rfl rfl ?_
  refine a_iload_n (pc := 1) dX6_station_1 rfl rfl ?_
  refine a_callI1 (pc := 2) ck_X6_129 ⟨(Nat.le_of_ble_eq_true rfl), (Nat.le_of_ble_eq_true rfl)⟩ (by assumption) (by decide) (Nat.le_of_ble_eq_true rfl) dX6_station_2 rfl (c_X6_isStation h0 (by omega)) ?_
  rintro r u ⟨hr, rfl⟩
  have hr1 : r = 1 := by
    rcases hr with q | q
    · exact q.1
    · exact absurd ⟨i, hiN, rfl⟩ q.2
  subst hr1
  refine a_if_ne (pc := 5) (tgt := 10) dX6_station_5 (by decide) (fun c_5 => ?_) (fun c_5 => ?_)
  · refine a_aload_n (pc := 10) dX6_station_10 rfl rfl ?_
    refine a_getr (pc := 11) fl_X6_16 (by assumption) (by decide) (by rfl) dX6_station_11 ?_
    refine a_getr (pc := 14) fl_X6_70 (by assumption) (by decide) (by rfl) dX6_station_14 ?_
    refine a_iload_n (pc := 17) dX6_station_17 rfl rfl ?_
    refine a_aald2 (pc := 18)  (by assumption) rfl (by omega) (by decide) (all_at (by omega)) dX6_station_18 ?_
    refine a_astore_n (pc := 19) (al' := [some (.ref _), some (.int _), some (.int _), some (.ref _)]) dX6_station_19 rfl (by decide) rfl rfl ?_
    refine a_iload_n (pc := 20) dX6_station_20 rfl rfl ?_
    refine a_tableIn (pc := 21) (off := 76) (tgt := 97) dX6_station_21 (by decide) (by decide) (by decide) (by decide) ?_
    refine a_aload_n (pc := 97) dX6_station_97 rfl rfl ?_
    refine a_geti (pc := 98) fl_X6_135 (by assumption) (by decide) (by rfl) dX6_station_98 ?_
    refine a_iret (pc := 101) rfl dX6_station_101 ?_
    exact ⟨rfl, rfl⟩
  · exact absurd c_5 (by decide)

set_option maxHeartbeats 4000000 in
set_option maxRecDepth 100000 in
theorem c_X6_station3 {μ : Mem} {i N : Nat} (h0 : μ 2 0 = nI N) (hN : N ≤ 6) (hiN : i < N) : Con shC mX6_station [.ref 0, .int (nI i), .int 3] μ (fun r u => r = (if μ ((stA 2 i) + 1) 0 = 0 then -4 else μ (stA 2 i) 3) ∧ μ = u) := by
  have z0 : shC[0]? = some (6, 8, [some 1, none, some 2, some 53, some 104, some 106, none, none]) := rfl
  have hn := net_2
  obtain ⟨hn0, hn1, hn2, hnS⟩ := id net_2
  have hi : i < 6 := by omega
  have ws := hnS i hi
  have w0 : shC[(stA 2 i)]? = _ := ws.1
  have w1 : shC[(stA 2 i) + 1]? = some (0, 3, [none, some ((stA 2 i) + 2), some ((stA 2 i) + 3)]) := ws.2.1.1
  have w2 : shC[(stA 2 i) + 2]? = some (100, 6, []) := ws.2.1.2.1
  have w3 : shC[(stA 2 i) + 3]? = some (100, 6, []) := ws.2.1.2.2
  have w4 : shC[(stA 2 i) + 4]? = some (1, 2, [none, some ((stA 2 i) + 5)]) := ws.2.2.1.1
  have w5 : shC[(stA 2 i) + 5]? = some (100, 24, []) := ws.2.2.1.2
  have w6 : shC[(stA 2 i) + 6]? = some (4, 4, [none, none, none, none]) := ws.2.2.2.1
  have w7 : shC[(stA 2 i) + 7]? = some (4, 4, [none, none, none, none]) := ws.2.2.2.2
  refine Con.ofAW (al0 := [some (.ref 0), some (.int (nI i)), some (.int 3), none]) (by decide) rfl (Nat.le_of_ble_eq_true rfl) rfl ?_
  refine a_aload_n (pc := 0) dX6_station_0 rfl rfl ?_
  refine a_iload_n (pc := 1) dX6_station_1 rfl rfl ?_
  refine a_callI1 (pc := 2) ck_X6_129 ⟨(Nat.le_of_ble_eq_true rfl), (Nat.le_of_ble_eq_true rfl)⟩ (by assumption) (by decide) (Nat.le_of_ble_eq_true rfl) dX6_station_2 rfl (c_X6_isStation h0 (by omega)) ?_
  rintro r u ⟨hr, rfl⟩
  have hr1 : r = 1 := by
    rcases hr with q | q
    · exact q.1
    · exact absurd ⟨i, hiN, rfl⟩ q.2
  subst hr1
  refine a_if_ne (pc := 5) (tgt := 10) dX6_station_5 (by decide) (fun c_5 => ?_) (fun c_5 => ?_)
  · refine a_aload_n (pc := 10) dX6_station_10 rfl rfl ?_
    refine a_getr (pc := 11) fl_X6_16 (by assumption) (by decide) (by rfl) dX6_station_11 ?_
    refine a_getr (pc := 14) fl_X6_70 (by assumption) (by decide) (by rfl) dX6_station_14 ?_
    refine a_iload_n (pc := 17) dX6_station_17 rfl rfl ?_
    refine a_aald2 (pc := 18)  (by assumption) rfl (by omega) (by decide) (all_at (by omega)) dX6_station_18 ?_
    refine a_astore_n (pc := 19) (al' := [some (.ref _), some (.int _), some (.int _), some (.ref _)]) dX6_station_19 rfl (by decide) rfl rfl ?_
    refine a_iload_n (pc := 20) dX6_station_20 rfl rfl ?_
    refine a_tableIn (pc := 21) (off := 81) (tgt := 102) dX6_station_21 (by decide) (by decide) (by decide) (by decide) ?_
    refine a_aload_n (pc := 102) dX6_station_102 rfl rfl ?_
    refine a_getr (pc := 103) fl_X6_74 (by assumption) (by decide) (by rfl) dX6_station_103 ?_
    refine a_geti (pc := 106) fl_X6_80 (by assumption) (by decide) (by rfl) dX6_station_106 ?_
    refine a_if_ne (pc := 109) (tgt := 117) dX6_station_109 (by decide) (fun c_109 => ?_) (fun c_109 => ?_)
    · refine a_aload_n (pc := 117) dX6_station_117 rfl rfl ?_
      refine a_geti (pc := 118) fl_X6_138 (by assumption) (by decide) (by rfl) dX6_station_118 ?_
      refine a_iret (pc := 121) rfl dX6_station_121 ?_
      simp_all
    · refine a_bipush (pc := 112) (v := -4) dX6_station_112 (by decide) ?_
      refine a_goto (pc := 114) (tgt := 121) dX6_station_114 (by decide) ?_
      refine a_iret (pc := 121) rfl dX6_station_121 ?_
      simp_all
  · exact absurd c_5 (by decide)

set_option maxHeartbeats 4000000 in
set_option maxRecDepth 100000 in
theorem c_X6_station4 {μ : Mem} {i N : Nat} (h0 : μ 2 0 = nI N) (hN : N ≤ 6) (hiN : i < N) : Con shC mX6_station [.ref 0, .int (nI i), .int 4] μ (fun r u => r = μ (stA 2 i) 4 ∧ μ = u) := by
  have z0 : shC[0]? = some (6, 8, [some 1, none, some 2, some 53, some 104, some 106, none, none]) := rfl
  have hn := net_2
  obtain ⟨hn0, hn1, hn2, hnS⟩ := id net_2
  have hi : i < 6 := by omega
  have ws := hnS i hi
  have w0 : shC[(stA 2 i)]? = _ := ws.1
  have w1 : shC[(stA 2 i) + 1]? = some (0, 3, [none, some ((stA 2 i) + 2), some ((stA 2 i) + 3)]) := ws.2.1.1
  have w2 : shC[(stA 2 i) + 2]? = some (100, 6, []) := ws.2.1.2.1
  have w3 : shC[(stA 2 i) + 3]? = some (100, 6, []) := ws.2.1.2.2
  have w4 : shC[(stA 2 i) + 4]? = some (1, 2, [none, some ((stA 2 i) + 5)]) := ws.2.2.1.1
  have w5 : shC[(stA 2 i) + 5]? = some (100, 24, []) := ws.2.2.1.2
  have w6 : shC[(stA 2 i) + 6]? = some (4, 4, [none, none, none, none]) := ws.2.2.2.1
  have w7 : shC[(stA 2 i) + 7]? = some (4, 4, [none, none, none, none]) := ws.2.2.2.2
  refine Con.ofAW (al0 := [some (.ref 0), some (.int (nI i)), some (.int 4), none]) (by decide) rfl (Nat.le_of_ble_eq_true rfl) rfl ?_
  refine a_aload_n (pc := 0) dX6_station_0 rfl rfl ?_
  refine a_iload_n (pc := 1) dX6_station_1 rfl rfl ?_
  refine a_callI1 (pc := 2) ck_X6_129 ⟨(Nat.le_of_ble_eq_true rfl), (Nat.le_of_ble_eq_true rfl)⟩ (by assumption) (by decide) (Nat.le_of_ble_eq_true rfl) dX6_station_2 rfl (c_X6_isStation h0 (by omega)) ?_
  rintro r u ⟨hr, rfl⟩
  have hr1 : r = 1 := by
    rcases hr with q | q
    · exact q.1
    · exact absurd ⟨i, hiN, rfl⟩ q.2
  subst hr1
  refine a_if_ne (pc := 5) (tgt := 10) dX6_station_5 (by decide) (fun c_5 => ?_) (fun c_5 => ?_)
  · refine a_aload_n (pc := 10) dX6_station_10 rfl rfl ?_
    refine a_getr (pc := 11) fl_X6_16 (by assumption) (by decide) (by rfl) dX6_station_11 ?_
    refine a_getr (pc := 14) fl_X6_70 (by assumption) (by decide) (by rfl) dX6_station_14 ?_
    refine a_iload_n (pc := 17) dX6_station_17 rfl rfl ?_
    refine a_aald2 (pc := 18)  (by assumption) rfl (by omega) (by decide) (all_at (by omega)) dX6_station_18 ?_
    refine a_astore_n (pc := 19) (al' := [some (.ref _), some (.int _), some (.int _), some (.ref _)]) dX6_station_19 rfl (by decide) rfl rfl ?_
    refine a_iload_n (pc := 20) dX6_station_20 rfl rfl ?_
    refine a_tableIn (pc := 21) (off := 101) (tgt := 122) dX6_station_21 (by decide) (by decide) (by decide) (by decide) ?_
    refine a_aload_n (pc := 122) dX6_station_122 rfl rfl ?_
    refine a_geti (pc := 123) fl_X6_141 (by assumption) (by decide) (by rfl) dX6_station_123 ?_
    refine a_iret (pc := 126) rfl dX6_station_126 ?_
    exact ⟨rfl, rfl⟩
  · exact absurd c_5 (by decide)

set_option maxHeartbeats 4000000 in
set_option maxRecDepth 100000 in
theorem c_X6_station5 {μ : Mem} {i N : Nat} (h0 : μ 2 0 = nI N) (hN : N ≤ 6) (hiN : i < N) : Con shC mX6_station [.ref 0, .int (nI i), .int 5] μ (fun r u => r = μ (stA 2 i) 5 ∧ μ = u) := by
  have z0 : shC[0]? = some (6, 8, [some 1, none, some 2, some 53, some 104, some 106, none, none]) := rfl
  have hn := net_2
  obtain ⟨hn0, hn1, hn2, hnS⟩ := id net_2
  have hi : i < 6 := by omega
  have ws := hnS i hi
  have w0 : shC[(stA 2 i)]? = _ := ws.1
  have w1 : shC[(stA 2 i) + 1]? = some (0, 3, [none, some ((stA 2 i) + 2), some ((stA 2 i) + 3)]) := ws.2.1.1
  have w2 : shC[(stA 2 i) + 2]? = some (100, 6, []) := ws.2.1.2.1
  have w3 : shC[(stA 2 i) + 3]? = some (100, 6, []) := ws.2.1.2.2
  have w4 : shC[(stA 2 i) + 4]? = some (1, 2, [none, some ((stA 2 i) + 5)]) := ws.2.2.1.1
  have w5 : shC[(stA 2 i) + 5]? = some (100, 24, []) := ws.2.2.1.2
  have w6 : shC[(stA 2 i) + 6]? = some (4, 4, [none, none, none, none]) := ws.2.2.2.1
  have w7 : shC[(stA 2 i) + 7]? = some (4, 4, [none, none, none, none]) := ws.2.2.2.2
  refine Con.ofAW (al0 := [some (.ref 0), some (.int (nI i)), some (.int 5), none]) (by decide) rfl (Nat.le_of_ble_eq_true rfl) rfl ?_
  refine a_aload_n (pc := 0) dX6_station_0 rfl rfl ?_
  refine a_iload_n (pc := 1) dX6_station_1 rfl rfl ?_
  refine a_callI1 (pc := 2) ck_X6_129 ⟨(Nat.le_of_ble_eq_true rfl), (Nat.le_of_ble_eq_true rfl)⟩ (by assumption) (by decide) (Nat.le_of_ble_eq_true rfl) dX6_station_2 rfl (c_X6_isStation h0 (by omega)) ?_
  rintro r u ⟨hr, rfl⟩
  have hr1 : r = 1 := by
    rcases hr with q | q
    · exact q.1
    · exact absurd ⟨i, hiN, rfl⟩ q.2
  subst hr1
  refine a_if_ne (pc := 5) (tgt := 10) dX6_station_5 (by decide) (fun c_5 => ?_) (fun c_5 => ?_)
  · refine a_aload_n (pc := 10) dX6_station_10 rfl rfl ?_
    refine a_getr (pc := 11) fl_X6_16 (by assumption) (by decide) (by rfl) dX6_station_11 ?_
    refine a_getr (pc := 14) fl_X6_70 (by assumption) (by decide) (by rfl) dX6_station_14 ?_
    refine a_iload_n (pc := 17) dX6_station_17 rfl rfl ?_
    refine a_aald2 (pc := 18)  (by assumption) rfl (by omega) (by decide) (all_at (by omega)) dX6_station_18 ?_
    refine a_astore_n (pc := 19) (al' := [some (.ref _), some (.int _), some (.int _), some (.ref _)]) dX6_station_19 rfl (by decide) rfl rfl ?_
    refine a_iload_n (pc := 20) dX6_station_20 rfl rfl ?_
    refine a_tableIn (pc := 21) (off := 106) (tgt := 127) dX6_station_21 (by decide) (by decide) (by decide) (by decide) ?_
    refine a_aload_n (pc := 127) dX6_station_127 rfl rfl ?_
    refine a_geti (pc := 128) fl_X6_144 (by assumption) (by decide) (by rfl) dX6_station_128 ?_
    refine a_iret (pc := 131) rfl dX6_station_131 ?_
    exact ⟨rfl, rfl⟩
  · exact absurd c_5 (by decide)

set_option maxHeartbeats 4000000 in
set_option maxRecDepth 100000 in
theorem c_X6_station6 {μ : Mem} {i N : Nat} (h0 : μ 2 0 = nI N) (hN : N ≤ 6) (hiN : i < N) : Con shC mX6_station [.ref 0, .int (nI i), .int 6] μ (fun r u => r = μ (stA 2 i) 6 ∧ μ = u) := by
  have z0 : shC[0]? = some (6, 8, [some 1, none, some 2, some 53, some 104, some 106, none, none]) := rfl
  have hn := net_2
  obtain ⟨hn0, hn1, hn2, hnS⟩ := id net_2
  have hi : i < 6 := by omega
  have ws := hnS i hi
  have w0 : shC[(stA 2 i)]? = _ := ws.1
  have w1 : shC[(stA 2 i) + 1]? = some (0, 3, [none, some ((stA 2 i) + 2), some ((stA 2 i) + 3)]) := ws.2.1.1
  have w2 : shC[(stA 2 i) + 2]? = some (100, 6, []) := ws.2.1.2.1
  have w3 : shC[(stA 2 i) + 3]? = some (100, 6, []) := ws.2.1.2.2
  have w4 : shC[(stA 2 i) + 4]? = some (1, 2, [none, some ((stA 2 i) + 5)]) := ws.2.2.1.1
  have w5 : shC[(stA 2 i) + 5]? = some (100, 24, []) := ws.2.2.1.2
  have w6 : shC[(stA 2 i) + 6]? = some (4, 4, [none, none, none, none]) := ws.2.2.2.1
  have w7 : shC[(stA 2 i) + 7]? = some (4, 4, [none, none, none, none]) := ws.2.2.2.2
  refine Con.ofAW (al0 := [some (.ref 0), some (.int (nI i)), some (.int 6), none]) (by decide) rfl (Nat.le_of_ble_eq_true rfl) rfl ?_
  refine a_aload_n (pc := 0) dX6_station_0 rfl rfl ?_
  refine a_iload_n (pc := 1) dX6_station_1 rfl rfl ?_
  refine a_callI1 (pc := 2) ck_X6_129 ⟨(Nat.le_of_ble_eq_true rfl), (Nat.le_of_ble_eq_true rfl)⟩ (by assumption) (by decide) (Nat.le_of_ble_eq_true rfl) dX6_station_2 rfl (c_X6_isStation h0 (by omega)) ?_
  rintro r u ⟨hr, rfl⟩
  have hr1 : r = 1 := by
    rcases hr with q | q
    · exact q.1
    · exact absurd ⟨i, hiN, rfl⟩ q.2
  subst hr1
  refine a_if_ne (pc := 5) (tgt := 10) dX6_station_5 (by decide) (fun c_5 => ?_) (fun c_5 => ?_)
  · refine a_aload_n (pc := 10) dX6_station_10 rfl rfl ?_
    refine a_getr (pc := 11) fl_X6_16 (by assumption) (by decide) (by rfl) dX6_station_11 ?_
    refine a_getr (pc := 14) fl_X6_70 (by assumption) (by decide) (by rfl) dX6_station_14 ?_
    refine a_iload_n (pc := 17) dX6_station_17 rfl rfl ?_
    refine a_aald2 (pc := 18)  (by assumption) rfl (by omega) (by decide) (all_at (by omega)) dX6_station_18 ?_
    refine a_astore_n (pc := 19) (al' := [some (.ref _), some (.int _), some (.int _), some (.ref _)]) dX6_station_19 rfl (by decide) rfl rfl ?_
    refine a_iload_n (pc := 20) dX6_station_20 rfl rfl ?_
    refine a_tableIn (pc := 21) (off := 111) (tgt := 132) dX6_station_21 (by decide) (by decide) (by decide) (by decide) ?_
    refine a_aload_n (pc := 132) dX6_station_132 rfl rfl ?_
    refine a_geti (pc := 133) fl_X6_147 (by assumption) (by decide) (by rfl) dX6_station_133 ?_
    refine a_iret (pc := 136) rfl dX6_station_136 ?_
    exact ⟨rfl, rfl⟩
  · exact absurd c_5 (by decide)

set_option maxHeartbeats 4000000 in
set_option maxRecDepth 100000 in
theorem c_X6_station7 {μ : Mem} {i N : Nat} (h0 : μ 2 0 = nI N) (hN : N ≤ 6) (hiN : i < N) : Con shC mX6_station [.ref 0, .int (nI i), .int 7] μ (fun r u => r = μ (stA 2 i) 7 ∧ μ = u) := by
  have z0 : shC[0]? = some (6, 8, [some 1, none, some 2, some 53, some 104, some 106, none, none]) := rfl
  have hn := net_2
  obtain ⟨hn0, hn1, hn2, hnS⟩ := id net_2
  have hi : i < 6 := by omega
  have ws := hnS i hi
  have w0 : shC[(stA 2 i)]? = _ := ws.1
  have w1 : shC[(stA 2 i) + 1]? = some (0, 3, [none, some ((stA 2 i) + 2), some ((stA 2 i) + 3)]) := ws.2.1.1
  have w2 : shC[(stA 2 i) + 2]? = some (100, 6, []) := ws.2.1.2.1
  have w3 : shC[(stA 2 i) + 3]? = some (100, 6, []) := ws.2.1.2.2
  have w4 : shC[(stA 2 i) + 4]? = some (1, 2, [none, some ((stA 2 i) + 5)]) := ws.2.2.1.1
  have w5 : shC[(stA 2 i) + 5]? = some (100, 24, []) := ws.2.2.1.2
  have w6 : shC[(stA 2 i) + 6]? = some (4, 4, [none, none, none, none]) := ws.2.2.2.1
  have w7 : shC[(stA 2 i) + 7]? = some (4, 4, [none, none, none, none]) := ws.2.2.2.2
  refine Con.ofAW (al0 := [some (.ref 0), some (.int (nI i)), some (.int 7), none]) (by decide) rfl (Nat.le_of_ble_eq_true rfl) rfl ?_
  refine a_aload_n (pc := 0) dX6_station_0 rfl rfl ?_
  refine a_iload_n (pc := 1) dX6_station_1 rfl rfl ?_
  refine a_callI1 (pc := 2) ck_X6_129 ⟨(Nat.le_of_ble_eq_true rfl), (Nat.le_of_ble_eq_true rfl)⟩ (by assumption) (by decide) (Nat.le_of_ble_eq_true rfl) dX6_station_2 rfl (c_X6_isStation h0 (by omega)) ?_
  rintro r u ⟨hr, rfl⟩
  have hr1 : r = 1 := by
    rcases hr with q | q
    · exact q.1
    · exact absurd ⟨i, hiN, rfl⟩ q.2
  subst hr1
  refine a_if_ne (pc := 5) (tgt := 10) dX6_station_5 (by decide) (fun c_5 => ?_) (fun c_5 => ?_)
  · refine a_aload_n (pc := 10) dX6_station_10 rfl rfl ?_
    refine a_getr (pc := 11) fl_X6_16 (by assumption) (by decide) (by rfl) dX6_station_11 ?_
    refine a_getr (pc := 14) fl_X6_70 (by assumption) (by decide) (by rfl) dX6_station_14 ?_
    refine a_iload_n (pc := 17) dX6_station_17 rfl rfl ?_
    refine a_aald2 (pc := 18)  (by assumption) rfl (by omega) (by decide) (all_at (by omega)) dX6_station_18 ?_
    refine a_astore_n (pc := 19) (al' := [some (.ref _), some (.int _), some (.int _), some (.ref _)]) dX6_station_19 rfl (by decide) rfl rfl ?_
    refine a_iload_n (pc := 20) dX6_station_20 rfl rfl ?_
    refine a_tableIn (pc := 21) (off := 116) (tgt := 137) dX6_station_21 (by decide) (by decide) (by decide) (by decide) ?_
    refine a_aload_n (pc := 137) dX6_station_137 rfl rfl ?_
    refine a_geti (pc := 138) fl_X6_150 (by assumption) (by decide) (by rfl) dX6_station_138 ?_
    refine a_iret (pc := 141) rfl dX6_station_141 ?_
    exact ⟨rfl, rfl⟩
  · exact absurd c_5 (by decide)

set_option maxHeartbeats 4000000 in
set_option maxRecDepth 100000 in
theorem c_X6_station8 {μ : Mem} {i N : Nat} (h0 : μ 2 0 = nI N) (hN : N ≤ 6) (hiN : i < N) : Con shC mX6_station [.ref 0, .int (nI i), .int 8] μ (fun r u => r = μ (stA 2 i) 8 ∧ μ = u) := by
  have z0 : shC[0]? = some (6, 8, [some 1, none, some 2, some 53, some 104, some 106, none, none]) := rfl
  have hn := net_2
  obtain ⟨hn0, hn1, hn2, hnS⟩ := id net_2
  have hi : i < 6 := by omega
  have ws := hnS i hi
  have w0 : shC[(stA 2 i)]? = _ := ws.1
  have w1 : shC[(stA 2 i) + 1]? = some (0, 3, [none, some ((stA 2 i) + 2), some ((stA 2 i) + 3)]) := ws.2.1.1
  have w2 : shC[(stA 2 i) + 2]? = some (100, 6, []) := ws.2.1.2.1
  have w3 : shC[(stA 2 i) + 3]? = some (100, 6, []) := ws.2.1.2.2
  have w4 : shC[(stA 2 i) + 4]? = some (1, 2, [none, some ((stA 2 i) + 5)]) := ws.2.2.1.1
  have w5 : shC[(stA 2 i) + 5]? = some (100, 24, []) := ws.2.2.1.2
  have w6 : shC[(stA 2 i) + 6]? = some (4, 4, [none, none, none, none]) := ws.2.2.2.1
  have w7 : shC[(stA 2 i) + 7]? = some (4, 4, [none, none, none, none]) := ws.2.2.2.2
  refine Con.ofAW (al0 := [some (.ref 0), some (.int (nI i)), some (.int 8), none]) (by decide) rfl (Nat.le_of_ble_eq_true rfl) rfl ?_
  refine a_aload_n (pc := 0) dX6_station_0 rfl rfl ?_
  refine a_iload_n (pc := 1) dX6_station_1 rfl rfl ?_
  refine a_callI1 (pc := 2) ck_X6_129 ⟨(Nat.le_of_ble_eq_true rfl), (Nat.le_of_ble_eq_true rfl)⟩ (by assumption) (by decide) (Nat.le_of_ble_eq_true rfl) dX6_station_2 rfl (c_X6_isStation h0 (by omega)) ?_
  rintro r u ⟨hr, rfl⟩
  have hr1 : r = 1 := by
    rcases hr with q | q
    · exact q.1
    · exact absurd ⟨i, hiN, rfl⟩ q.2
  subst hr1
  refine a_if_ne (pc := 5) (tgt := 10) dX6_station_5 (by decide) (fun c_5 => ?_) (fun c_5 => ?_)
  · refine a_aload_n (pc := 10) dX6_station_10 rfl rfl ?_
    refine a_getr (pc := 11) fl_X6_16 (by assumption) (by decide) (by rfl) dX6_station_11 ?_
    refine a_getr (pc := 14) fl_X6_70 (by assumption) (by decide) (by rfl) dX6_station_14 ?_
    refine a_iload_n (pc := 17) dX6_station_17 rfl rfl ?_
    refine a_aald2 (pc := 18)  (by assumption) rfl (by omega) (by decide) (all_at (by omega)) dX6_station_18 ?_
    refine a_astore_n (pc := 19) (al' := [some (.ref _), some (.int _), some (.int _), some (.ref _)]) dX6_station_19 rfl (by decide) rfl rfl ?_
    refine a_iload_n (pc := 20) dX6_station_20 rfl rfl ?_
    refine a_tableIn (pc := 21) (off := 121) (tgt := 142) dX6_station_21 (by decide) (by decide) (by decide) (by decide) ?_
    refine a_aload_n (pc := 142) dX6_station_142 rfl rfl ?_
    refine a_geti (pc := 143) fl_X6_153 (by assumption) (by decide) (by rfl) dX6_station_143 ?_
    refine a_iret (pc := 146) rfl dX6_station_146 ?_
    exact ⟨rfl, rfl⟩
  · exact absurd c_5 (by decide)

set_option maxHeartbeats 4000000 in
set_option maxRecDepth 100000 in
theorem c_X6_station9 {μ : Mem} {i N : Nat} (h0 : μ 2 0 = nI N) (hN : N ≤ 6) (hiN : i < N) : Con shC mX6_station [.ref 0, .int (nI i), .int 9] μ (fun r u => r = ktsF μ 2 (stA 2 i) ∧ μ = u) := by
  have z0 : shC[0]? = some (6, 8, [some 1, none, some 2, some 53, some 104, some 106, none, none]) := rfl
  have hn := net_2
  obtain ⟨hn0, hn1, hn2, hnS⟩ := id net_2
  have hi : i < 6 := by omega
  have ws := hnS i hi
  have w0 : shC[(stA 2 i)]? = _ := ws.1
  have w1 : shC[(stA 2 i) + 1]? = some (0, 3, [none, some ((stA 2 i) + 2), some ((stA 2 i) + 3)]) := ws.2.1.1
  have w2 : shC[(stA 2 i) + 2]? = some (100, 6, []) := ws.2.1.2.1
  have w3 : shC[(stA 2 i) + 3]? = some (100, 6, []) := ws.2.1.2.2
  have w4 : shC[(stA 2 i) + 4]? = some (1, 2, [none, some ((stA 2 i) + 5)]) := ws.2.2.1.1
  have w5 : shC[(stA 2 i) + 5]? = some (100, 24, []) := ws.2.2.1.2
  have w6 : shC[(stA 2 i) + 6]? = some (4, 4, [none, none, none, none]) := ws.2.2.2.1
  have w7 : shC[(stA 2 i) + 7]? = some (4, 4, [none, none, none, none]) := ws.2.2.2.2
  refine Con.ofAW (al0 := [some (.ref 0), some (.int (nI i)), some (.int 9), none]) (by decide) rfl (Nat.le_of_ble_eq_true rfl) rfl ?_
  refine a_aload_n (pc := 0) dX6_station_0 rfl rfl ?_
  refine a_iload_n (pc := 1) dX6_station_1 rfl rfl ?_
  refine a_callI1 (pc := 2) ck_X6_129 ⟨(Nat.le_of_ble_eq_true rfl), (Nat.le_of_ble_eq_true rfl)⟩ (by assumption) (by decide) (Nat.le_of_ble_eq_true rfl) dX6_station_2 rfl (c_X6_isStation h0 (by omega)) ?_
  rintro r u ⟨hr, rfl⟩
  have hr1 : r = 1 := by
    rcases hr with q | q
    · exact q.1
    · exact absurd ⟨i, hiN, rfl⟩ q.2
  subst hr1
  refine a_if_ne (pc := 5) (tgt := 10) dX6_station_5 (by decide) (fun c_5 => ?_) (fun c_5 => ?_)
  · refine a_aload_n (pc := 10) dX6_station_10 rfl rfl ?_
    refine a_getr (pc := 11) fl_X6_16 (by assumption) (by decide) (by rfl) dX6_station_11 ?_
    refine a_getr (pc := 14) fl_X6_70 (by assumption) (by decide) (by rfl) dX6_station_14 ?_
    refine a_iload_n (pc := 17) dX6_station_17 rfl rfl ?_
    refine a_aald2 (pc := 18)  (by assumption) rfl (by omega) (by decide) (all_at (by omega)) dX6_station_18 ?_
    refine a_astore_n (pc := 19) (al' := [some (.ref _), some (.int _), some (.int _), some (.ref _)]) dX6_station_19 rfl (by decide) rfl rfl ?_
    refine a_iload_n (pc := 20) dX6_station_20 rfl rfl ?_
    refine a_tableIn (pc := 21) (off := 126) (tgt := 147) dX6_station_21 (by decide) (by decide) (by decide) (by decide) ?_
    refine a_aload_n (pc := 147) dX6_station_147 rfl rfl ?_
    refine a_getr (pc := 148) fl_X6_16 (by assumption) (by decide) (by rfl) dX6_station_148 ?_
    refine a_aload_n (pc := 151) dX6_station_151 rfl rfl ?_
    refine a_callI1 (pc := 152) ck_X6_156 ⟨(Nat.le_of_ble_eq_true rfl), (Nat.le_of_ble_eq_true rfl)⟩ (by assumption) (by decide) (Nat.le_of_ble_eq_true rfl) dX6_station_152 rfl (c_X2_kindToSend net_2 ws) ?_
    rintro r u ⟨hk, rfl⟩
    refine a_iret (pc := 155) rfl dX6_station_155 ?_
    exact ⟨kts_eq hk, rfl⟩
  · exact absurd c_5 (by decide)

set_option maxHeartbeats 4000000 in
set_option maxRecDepth 100000 in
theorem c_X6_station10 {μ : Mem} {i N : Nat} (h0 : μ 2 0 = nI N) (hN : N ≤ 6) (hiN : i < N) : Con shC mX6_station [.ref 0, .int (nI i), .int 10] μ (fun r u => r = μ (stA 2 i) 0 ∧ μ = u) := by
  have z0 : shC[0]? = some (6, 8, [some 1, none, some 2, some 53, some 104, some 106, none, none]) := rfl
  have hn := net_2
  obtain ⟨hn0, hn1, hn2, hnS⟩ := id net_2
  have hi : i < 6 := by omega
  have ws := hnS i hi
  have w0 : shC[(stA 2 i)]? = _ := ws.1
  have w1 : shC[(stA 2 i) + 1]? = some (0, 3, [none, some ((stA 2 i) + 2), some ((stA 2 i) + 3)]) := ws.2.1.1
  have w2 : shC[(stA 2 i) + 2]? = some (100, 6, []) := ws.2.1.2.1
  have w3 : shC[(stA 2 i) + 3]? = some (100, 6, []) := ws.2.1.2.2
  have w4 : shC[(stA 2 i) + 4]? = some (1, 2, [none, some ((stA 2 i) + 5)]) := ws.2.2.1.1
  have w5 : shC[(stA 2 i) + 5]? = some (100, 24, []) := ws.2.2.1.2
  have w6 : shC[(stA 2 i) + 6]? = some (4, 4, [none, none, none, none]) := ws.2.2.2.1
  have w7 : shC[(stA 2 i) + 7]? = some (4, 4, [none, none, none, none]) := ws.2.2.2.2
  refine Con.ofAW (al0 := [some (.ref 0), some (.int (nI i)), some (.int 10), none]) (by decide) rfl (Nat.le_of_ble_eq_true rfl) rfl ?_
  refine a_aload_n (pc := 0) dX6_station_0 rfl rfl ?_
  refine a_iload_n (pc := 1) dX6_station_1 rfl rfl ?_
  refine a_callI1 (pc := 2) ck_X6_129 ⟨(Nat.le_of_ble_eq_true rfl), (Nat.le_of_ble_eq_true rfl)⟩ (by assumption) (by decide) (Nat.le_of_ble_eq_true rfl) dX6_station_2 rfl (c_X6_isStation h0 (by omega)) ?_
  rintro r u ⟨hr, rfl⟩
  have hr1 : r = 1 := by
    rcases hr with q | q
    · exact q.1
    · exact absurd ⟨i, hiN, rfl⟩ q.2
  subst hr1
  refine a_if_ne (pc := 5) (tgt := 10) dX6_station_5 (by decide) (fun c_5 => ?_) (fun c_5 => ?_)
  · refine a_aload_n (pc := 10) dX6_station_10 rfl rfl ?_
    refine a_getr (pc := 11) fl_X6_16 (by assumption) (by decide) (by rfl) dX6_station_11 ?_
    refine a_getr (pc := 14) fl_X6_70 (by assumption) (by decide) (by rfl) dX6_station_14 ?_
    refine a_iload_n (pc := 17) dX6_station_17 rfl rfl ?_
    refine a_aald2 (pc := 18)  (by assumption) rfl (by omega) (by decide) (all_at (by omega)) dX6_station_18 ?_
    refine a_astore_n (pc := 19) (al' := [some (.ref _), some (.int _), some (.int _), some (.ref _)]) dX6_station_19 rfl (by decide) rfl rfl ?_
    refine a_iload_n (pc := 20) dX6_station_20 rfl rfl ?_
    refine a_tableIn (pc := 21) (off := 135) (tgt := 156) dX6_station_21 (by decide) (by decide) (by decide) (by decide) ?_
    refine a_aload_n (pc := 156) dX6_station_156 rfl rfl ?_
    refine a_geti (pc := 157) fl_X6_160 (by assumption) (by decide) (by rfl) dX6_station_157 ?_
    refine a_iret (pc := 160) rfl dX6_station_160 ?_
    exact ⟨rfl, rfl⟩
  · exact absurd c_5 (by decide)

set_option maxHeartbeats 4000000 in
set_option maxRecDepth 100000 in
theorem c_X6_station11 {μ : Mem} {i N : Nat} (h0 : μ 2 0 = nI N) (hN : N ≤ 6) (hiN : i < N) : Con shC mX6_station [.ref 0, .int (nI i), .int 11] μ (fun r u => r = (if μ (stA 2 i) 9 = 0 then 0 else 1) ∧ μ = u) := by
  have z0 : shC[0]? = some (6, 8, [some 1, none, some 2, some 53, some 104, some 106, none, none]) := rfl
  have hn := net_2
  obtain ⟨hn0, hn1, hn2, hnS⟩ := id net_2
  have hi : i < 6 := by omega
  have ws := hnS i hi
  have w0 : shC[(stA 2 i)]? = _ := ws.1
  have w1 : shC[(stA 2 i) + 1]? = some (0, 3, [none, some ((stA 2 i) + 2), some ((stA 2 i) + 3)]) := ws.2.1.1
  have w2 : shC[(stA 2 i) + 2]? = some (100, 6, []) := ws.2.1.2.1
  have w3 : shC[(stA 2 i) + 3]? = some (100, 6, []) := ws.2.1.2.2
  have w4 : shC[(stA 2 i) + 4]? = some (1, 2, [none, some ((stA 2 i) + 5)]) := ws.2.2.1.1
  have w5 : shC[(stA 2 i) + 5]? = some (100, 24, []) := ws.2.2.1.2
  have w6 : shC[(stA 2 i) + 6]? = some (4, 4, [none, none, none, none]) := ws.2.2.2.1
  have w7 : shC[(stA 2 i) + 7]? = some (4, 4, [none, none, none, none]) := ws.2.2.2.2
  refine Con.ofAW (al0 := [some (.ref 0), some (.int (nI i)), some (.int 11), none]) (by decide) rfl (Nat.le_of_ble_eq_true rfl) rfl ?_
  refine a_aload_n (pc := 0) dX6_station_0 rfl rfl ?_
  refine a_iload_n (pc := 1) dX6_station_1 rfl rfl ?_
  refine a_callI1 (pc := 2) ck_X6_129 ⟨(Nat.le_of_ble_eq_true rfl), (Nat.le_of_ble_eq_true rfl)⟩ (by assumption) (by decide) (Nat.le_of_ble_eq_true rfl) dX6_station_2 rfl (c_X6_isStation h0 (by omega)) ?_
  rintro r u ⟨hr, rfl⟩
  have hr1 : r = 1 := by
    rcases hr with q | q
    · exact q.1
    · exact absurd ⟨i, hiN, rfl⟩ q.2
  subst hr1
  refine a_if_ne (pc := 5) (tgt := 10) dX6_station_5 (by decide) (fun c_5 => ?_) (fun c_5 => ?_)
  · refine a_aload_n (pc := 10) dX6_station_10 rfl rfl ?_
    refine a_getr (pc := 11) fl_X6_16 (by assumption) (by decide) (by rfl) dX6_station_11 ?_
    refine a_getr (pc := 14) fl_X6_70 (by assumption) (by decide) (by rfl) dX6_station_14 ?_
    refine a_iload_n (pc := 17) dX6_station_17 rfl rfl ?_
    refine a_aald2 (pc := 18)  (by assumption) rfl (by omega) (by decide) (all_at (by omega)) dX6_station_18 ?_
    refine a_astore_n (pc := 19) (al' := [some (.ref _), some (.int _), some (.int _), some (.ref _)]) dX6_station_19 rfl (by decide) rfl rfl ?_
    refine a_iload_n (pc := 20) dX6_station_20 rfl rfl ?_
    refine a_tableIn (pc := 21) (off := 140) (tgt := 161) dX6_station_21 (by decide) (by decide) (by decide) (by decide) ?_
    refine a_aload_n (pc := 161) dX6_station_161 rfl rfl ?_
    refine a_geti (pc := 162) fl_X6_162 (by assumption) (by decide) (by rfl) dX6_station_162 ?_
    refine a_if_ne (pc := 165) (tgt := 172) dX6_station_165 (by decide) (fun c_165 => ?_) (fun c_165 => ?_)
    · refine a_iconst (pc := 172) (v := 1) dX6_station_172 (by decide) ?_
      refine a_iret (pc := 173) rfl dX6_station_173 ?_
      simp_all
    · refine a_iconst (pc := 168) (v := 0) dX6_station_168 (by decide) ?_
      refine a_goto (pc := 169) (tgt := 173) dX6_station_169 (by decide) ?_
      refine a_iret (pc := 173) rfl dX6_station_173 ?_
      simp_all
  · exact absurd c_5 (by decide)

set_option maxHeartbeats 4000000 in
set_option maxRecDepth 100000 in
theorem c_X7_station0 {ν : Mem} {i N : Nat} (h0 : ν 0 2 = nI N) (hN : N ≤ 6) (hiN : i < N) : Con shM mX7_station [.ref 0, .int (nI i), .int 0] ν (fun r u => r = ν 2 (70 * i + 8) ∧ ν = u) := by
  have m0 : shM[0]? = some (7, 18, [none, some 1, none, none, none, none, none, some 2, some 3, none, none, some 4, none, none, some 5, some 6, some 7, some 8]) := rfl
  have m1 : shM[1]? = some (100, 200, []) := rfl
  have m2 : shM[2]? = some (100, 1320, []) := rfl
  have m3 : shM[3]? = some (100, 1760, []) := rfl
  have m4 : shM[4]? = some (100, 4, []) := rfl
  have m5 : shM[5]? = some (100, 6, []) := rfl
  have m6 : shM[6]? = some (100, 6, []) := rfl
  have m7 : shM[7]? = some (100, 6, []) := rfl
  have m8 : shM[8]? = some (100, 6, []) := rfl
  refine Con.ofAW (al0 := [some (.ref 0), some (.int (nI i)), some (.int 0), none]) (by decide) rfl (Nat.le_of_ble_eq_true rfl) rfl ?_
  refine a_aload_n (pc := 0) dX7_station_0 rfl rfl ?_
  refine a_iload_n (pc := 1) dX7_station_1 rfl rfl ?_
  refine a_callI1 (pc := 2) ck_X7_175 ⟨(Nat.le_of_ble_eq_true rfl), (Nat.le_of_ble_eq_true rfl)⟩ (by assumption) (by decide) (Nat.le_of_ble_eq_true rfl) dX7_station_2 rfl (c_X7_isStation h0 (by omega) (by omega)) ?_
  rintro r u ⟨hr, rfl⟩
  have hr1 : r = 1 := by
    rcases hr with q | q
    · exact q.1
    · exact absurd ⟨i, hiN, rfl⟩ q.2
  subst hr1
  refine a_if_eq (pc := 5) (tgt := 18) dX7_station_5 (by decide) (fun c_5 => ?_) (fun c_5 => ?_)
  · exact absurd c_5 (by decide)
  · refine a_iload_n (pc := 8) dX7_station_8 rfl rfl ?_
    refine a_iconst (pc := 9) (v := 0) dX7_station_9 (by decide) ?_
    refine a_bipush (pc := 10) (v := 11) dX7_station_10 (by decide) ?_
    refine a_callS3 (pc := 12) cs_X7_94 ⟨(Nat.le_of_ble_eq_true rfl), (Nat.le_of_ble_eq_true rfl)⟩ (Nat.le_of_ble_eq_true rfl) dX7_station_12 rfl c_X7_isIn ?_
    rintro r u ⟨hr, rfl⟩
    have hr1 : r = 1 := by
      rcases hr with q | q
      · exact q.1
      · exact absurd q.2 (by decide)
    subst hr1
    refine a_if_ne (pc := 15) (tgt := 20) dX7_station_15 (by decide) (fun c_15 => ?_) (fun c_15 => ?_)
    · refine a_iconst (pc := 20) (v := 0) dX7_station_20 (by decide) ?_
      refine a_iload_n (pc := 21) dX7_station_21 rfl rfl ?_
      refine a_callS2 (pc := 22) cs_X7_52 ⟨(Nat.le_of_ble_eq_true rfl), (Nat.le_of_ble_eq_true rfl)⟩ (Nat.le_of_ble_eq_true rfl) dX7_station_22 rfl (c_X7_at (r := 0)) ?_
      rintro r_ u ⟨rfl, rfl⟩
      refine a_istore_n (pc := 25) (al' := [some (.ref _), some (.int _), some (.int _), some (.int _)]) dX7_station_25 rfl (by decide) rfl rfl ?_
      refine a_iload_n (pc := 26) dX7_station_26 rfl rfl ?_
      refine a_tableIn (pc := 27) (off := 57) (tgt := 84) dX7_station_27 (by decide) (by decide) (by decide) (by decide) ?_
      refine a_aload_n (pc := 84) dX7_station_84 rfl rfl ?_
      refine a_getr (pc := 85) fl_X7_13 (by assumption) (by decide) (by rfl) dX7_station_85 ?_
      refine a_iload_n (pc := 88) dX7_station_88 rfl rfl ?_
      refine a_bipush (pc := 89) (v := 8) dX7_station_89 (by decide) ?_
      refine a_iaddN (pc := 91) (a := _) (b := 8) rfl rfl dX7_station_91 ?_
      refine a_iald (pc := 92)  (by assumption) rfl (by omega) (by decide) dX7_station_92 ?_
      refine a_iret (pc := 93) rfl dX7_station_93 ?_
      simp
    · exact absurd c_15 (by decide)

set_option maxHeartbeats 4000000 in
set_option maxRecDepth 100000 in
theorem c_X7_station1 {ν : Mem} {i N : Nat} (h0 : ν 0 2 = nI N) (hN : N ≤ 6) (hiN : i < N) : Con shM mX7_station [.ref 0, .int (nI i), .int 1] ν (fun r u => r = ν 2 (70 * i) ∧ ν = u) := by
  have m0 : shM[0]? = some (7, 18, [none, some 1, none, none, none, none, none, some 2, some 3, none, none, some 4, none, none, some 5, some 6, some 7, some 8]) := rfl
  have m1 : shM[1]? = some (100, 200, []) := rfl
  have m2 : shM[2]? = some (100, 1320, []) := rfl
  have m3 : shM[3]? = some (100, 1760, []) := rfl
  have m4 : shM[4]? = some (100, 4, []) := rfl
  have m5 : shM[5]? = some (100, 6, []) := rfl
  have m6 : shM[6]? = some (100, 6, []) := rfl
  have m7 : shM[7]? = some (100, 6, []) := rfl
  have m8 : shM[8]? = some (100, 6, []) := rfl
  refine Con.ofAW (al0 := [some (.ref 0), some (.int (nI i)), some (.int 1), none]) (by decide) rfl (Nat.le_of_ble_eq_true rfl) rfl ?_
  refine a_aload_n (pc := 0) dX7_station_0 rfl rfl ?_
  refine a_iload_n (pc := 1) dX7_station_1 rfl rfl ?_
  refine a_callI1 (pc := 2) ck_X7_175 ⟨(Nat.le_of_ble_eq_true rfl), (Nat.le_of_ble_eq_true rfl)⟩ (by assumption) (by decide) (Nat.le_of_ble_eq_true rfl) dX7_station_2 rfl (c_X7_isStation h0 (by omega) (by omega)) ?_
  rintro r u ⟨hr, rfl⟩
  have hr1 : r = 1 := by
    rcases hr with q | q
    · exact q.1
    · exact absurd ⟨i, hiN, rfl⟩ q.2
  subst hr1
  refine a_if_eq (pc := 5) (tgt := 18) dX7_station_5 (by decide) (fun c_5 => ?_) (fun c_5 => ?_)
  · exact absurd c_5 (by decide)
  · refine a_iload_n (pc := 8) dX7_station_8 rfl rfl ?_
    refine a_iconst (pc := 9) (v := 0) dX7_station_9 (by decide) ?_
    refine a_bipush (pc := 10) (v := 11) dX7_station_10 (by decide) ?_
    refine a_callS3 (pc := 12) cs_X7_94 ⟨(Nat.le_of_ble_eq_true rfl), (Nat.le_of_ble_eq_true rfl)⟩ (Nat.le_of_ble_eq_true rfl) dX7_station_12 rfl c_X7_isIn ?_
    rintro r u ⟨hr, rfl⟩
    have hr1 : r = 1 := by
      rcases hr with q | q
      · exact q.1
      · exact absurd q.2 (by decide)
    subst hr1
    refine a_if_ne (pc := 15) (tgt := 20) dX7_station_15 (by decide) (fun c_15 => ?_) (fun c_15 => ?_)
    · refine a_iconst (pc := 20) (v := 0) dX7_station_20 (by decide) ?_
      refine a_iload_n (pc := 21) dX7_station_21 rfl rfl ?_
      refine a_callS2 (pc := 22) cs_X7_52 ⟨(Nat.le_of_ble_eq_true rfl), (Nat.le_of_ble_eq_true rfl)⟩ (Nat.le_of_ble_eq_true rfl) dX7_station_22 rfl (c_X7_at (r := 0)) ?_
      rintro r_ u ⟨rfl, rfl⟩
      refine a_istore_n (pc := 25) (al' := [some (.ref _), some (.int _), some (.int _), some (.int _)]) dX7_station_25 rfl (by decide) rfl rfl ?_
      refine a_iload_n (pc := 26) dX7_station_26 rfl rfl ?_
      refine a_tableIn (pc := 27) (off := 67) (tgt := 94) dX7_station_27 (by decide) (by decide) (by decide) (by decide) ?_
      refine a_aload_n (pc := 94) dX7_station_94 rfl rfl ?_
      refine a_getr (pc := 95) fl_X7_13 (by assumption) (by decide) (by rfl) dX7_station_95 ?_
      refine a_iload_n (pc := 98) dX7_station_98 rfl rfl ?_
      refine a_iconst (pc := 99) (v := 0) dX7_station_99 (by decide) ?_
      refine a_iaddN (pc := 100) (a := _) (b := 0) rfl rfl dX7_station_100 ?_
      refine a_iald (pc := 101)  (by assumption) rfl (by omega) (by decide) dX7_station_101 ?_
      refine a_iret (pc := 102) rfl dX7_station_102 ?_
      simp
    · exact absurd c_15 (by decide)

set_option maxHeartbeats 4000000 in
set_option maxRecDepth 100000 in
theorem c_X7_station2 {ν : Mem} {i N : Nat} (h0 : ν 0 2 = nI N) (hN : N ≤ 6) (hiN : i < N) : Con shM mX7_station [.ref 0, .int (nI i), .int 2] ν (fun r u => r = ν 2 (70 * i + 1) ∧ ν = u) := by
  have m0 : shM[0]? = some (7, 18, [none, some 1, none, none, none, none, none, some 2, some 3, none, none, some 4, none, none, some 5, some 6, some 7, some 8]) := rfl
  have m1 : shM[1]? = some (100, 200, []) := rfl
  have m2 : shM[2]? = some (100, 1320, []) := rfl
  have m3 : shM[3]? = some (100, 1760, []) := rfl
  have m4 : shM[4]? = some (100, 4, []) := rfl
  have m5 : shM[5]? = some (100, 6, []) := rfl
  have m6 : shM[6]? = some (100, 6, []) := rfl
  have m7 : shM[7]? = some (100, 6, []) := rfl
  have m8 : shM[8]? = some (100, 6, []) := rfl
  refine Con.ofAW (al0 := [some (.ref 0), some (.int (nI i)), some (.int 2), none]) (by decide) rfl (Nat.le_of_ble_eq_true rfl) rfl ?_
  refine a_aload_n (pc := 0) dX7_station_0 rfl rfl ?_
  refine a_iload_n (pc := 1) dX7_station_1 rfl rfl ?_
  refine a_callI1 (pc := 2) ck_X7_175 ⟨(Nat.le_of_ble_eq_true rfl), (Nat.le_of_ble_eq_true rfl)⟩ (by assumption) (by decide) (Nat.le_of_ble_eq_true rfl) dX7_station_2 rfl (c_X7_isStation h0 (by omega) (by omega)) ?_
  rintro r u ⟨hr, rfl⟩
  have hr1 : r = 1 := by
    rcases hr with q | q
    · exact q.1
    · exact absurd ⟨i, hiN, rfl⟩ q.2
  subst hr1
  refine a_if_eq (pc := 5) (tgt := 18) dX7_station_5 (by decide) (fun c_5 => ?_) (fun c_5 => ?_)
  · exact absurd c_5 (by decide)
  · refine a_iload_n (pc := 8) dX7_station_8 rfl rfl ?_
    refine a_iconst (pc := 9) (v := 0) dX7_station_9 (by decide) ?_
    refine a_bipush (pc := 10) (v := 11) dX7_station_10 (by decide) ?_
    refine a_callS3 (pc := 12) cs_X7_94 ⟨(Nat.le_of_ble_eq_true rfl), (Nat.le_of_ble_eq_true rfl)⟩ (Nat.le_of_ble_eq_true rfl) dX7_station_12 rfl c_X7_isIn ?_
    rintro r u ⟨hr, rfl⟩
    have hr1 : r = 1 := by
      rcases hr with q | q
      · exact q.1
      · exact absurd q.2 (by decide)
    subst hr1
    refine a_if_ne (pc := 15) (tgt := 20) dX7_station_15 (by decide) (fun c_15 => ?_) (fun c_15 => ?_)
    · refine a_iconst (pc := 20) (v := 0) dX7_station_20 (by decide) ?_
      refine a_iload_n (pc := 21) dX7_station_21 rfl rfl ?_
      refine a_callS2 (pc := 22) cs_X7_52 ⟨(Nat.le_of_ble_eq_true rfl), (Nat.le_of_ble_eq_true rfl)⟩ (Nat.le_of_ble_eq_true rfl) dX7_station_22 rfl (c_X7_at (r := 0)) ?_
      rintro r_ u ⟨rfl, rfl⟩
      refine a_istore_n (pc := 25) (al' := [some (.ref _), some (.int _), some (.int _), some (.int _)]) dX7_station_25 rfl (by decide) rfl rfl ?_
      refine a_iload_n (pc := 26) dX7_station_26 rfl rfl ?_
      refine a_tableIn (pc := 27) (off := 76) (tgt := 103) dX7_station_27 (by decide) (by decide) (by decide) (by decide) ?_
      refine a_aload_n (pc := 103) dX7_station_103 rfl rfl ?_
      refine a_getr (pc := 104) fl_X7_13 (by assumption) (by decide) (by rfl) dX7_station_104 ?_
      refine a_iload_n (pc := 107) dX7_station_107 rfl rfl ?_
      refine a_iconst (pc := 108) (v := 1) dX7_station_108 (by decide) ?_
      refine a_iaddN (pc := 109) (a := _) (b := 1) rfl rfl dX7_station_109 ?_
      refine a_iald (pc := 110)  (by assumption) rfl (by omega) (by decide) dX7_station_110 ?_
      refine a_iret (pc := 111) rfl dX7_station_111 ?_
      simp
    · exact absurd c_15 (by decide)

set_option maxHeartbeats 4000000 in
set_option maxRecDepth 100000 in
theorem c_X7_station3 {ν : Mem} {i N : Nat} (h0 : ν 0 2 = nI N) (hN : N ≤ 6) (hiN : i < N) : Con shM mX7_station [.ref 0, .int (nI i), .int 3] ν (fun r u => r = (if ν 2 (70 * i + 8) = 0 then -4 else ν 2 (70 * i + 2)) ∧ ν = u) := by
  have m0 : shM[0]? = some (7, 18, [none, some 1, none, none, none, none, none, some 2, some 3, none, none, some 4, none, none, some 5, some 6, some 7, some 8]) := rfl
  have m1 : shM[1]? = some (100, 200, []) := rfl
  have m2 : shM[2]? = some (100, 1320, []) := rfl
  have m3 : shM[3]? = some (100, 1760, []) := rfl
  have m4 : shM[4]? = some (100, 4, []) := rfl
  have m5 : shM[5]? = some (100, 6, []) := rfl
  have m6 : shM[6]? = some (100, 6, []) := rfl
  have m7 : shM[7]? = some (100, 6, []) := rfl
  have m8 : shM[8]? = some (100, 6, []) := rfl
  refine Con.ofAW (al0 := [some (.ref 0), some (.int (nI i)), some (.int 3), none]) (by decide) rfl (Nat.le_of_ble_eq_true rfl) rfl ?_
  refine a_aload_n (pc := 0) dX7_station_0 rfl rfl ?_
  refine a_iload_n (pc := 1) dX7_station_1 rfl rfl ?_
  refine a_callI1 (pc := 2) ck_X7_175 ⟨(Nat.le_of_ble_eq_true rfl), (Nat.le_of_ble_eq_true rfl)⟩ (by assumption) (by decide) (Nat.le_of_ble_eq_true rfl) dX7_station_2 rfl (c_X7_isStation h0 (by omega) (by omega)) ?_
  rintro r u ⟨hr, rfl⟩
  have hr1 : r = 1 := by
    rcases hr with q | q
    · exact q.1
    · exact absurd ⟨i, hiN, rfl⟩ q.2
  subst hr1
  refine a_if_eq (pc := 5) (tgt := 18) dX7_station_5 (by decide) (fun c_5 => ?_) (fun c_5 => ?_)
  · exact absurd c_5 (by decide)
  · refine a_iload_n (pc := 8) dX7_station_8 rfl rfl ?_
    refine a_iconst (pc := 9) (v := 0) dX7_station_9 (by decide) ?_
    refine a_bipush (pc := 10) (v := 11) dX7_station_10 (by decide) ?_
    refine a_callS3 (pc := 12) cs_X7_94 ⟨(Nat.le_of_ble_eq_true rfl), (Nat.le_of_ble_eq_true rfl)⟩ (Nat.le_of_ble_eq_true rfl) dX7_station_12 rfl c_X7_isIn ?_
    rintro r u ⟨hr, rfl⟩
    have hr1 : r = 1 := by
      rcases hr with q | q
      · exact q.1
      · exact absurd q.2 (by decide)
    subst hr1
    refine a_if_ne (pc := 15) (tgt := 20) dX7_station_15 (by decide) (fun c_15 => ?_) (fun c_15 => ?_)
    · refine a_iconst (pc := 20) (v := 0) dX7_station_20 (by decide) ?_
      refine a_iload_n (pc := 21) dX7_station_21 rfl rfl ?_
      refine a_callS2 (pc := 22) cs_X7_52 ⟨(Nat.le_of_ble_eq_true rfl), (Nat.le_of_ble_eq_true rfl)⟩ (Nat.le_of_ble_eq_true rfl) dX7_station_22 rfl (c_X7_at (r := 0)) ?_
      rintro r_ u ⟨rfl, rfl⟩
      refine a_istore_n (pc := 25) (al' := [some (.ref _), some (.int _), some (.int _), some (.int _)]) dX7_station_25 rfl (by decide) rfl rfl ?_
      refine a_iload_n (pc := 26) dX7_station_26 rfl rfl ?_
      refine a_tableIn (pc := 27) (off := 85) (tgt := 112) dX7_station_27 (by decide) (by decide) (by decide) (by decide) ?_
      refine a_aload_n (pc := 112) dX7_station_112 rfl rfl ?_
      refine a_getr (pc := 113) fl_X7_13 (by assumption) (by decide) (by rfl) dX7_station_113 ?_
      refine a_iload_n (pc := 116) dX7_station_116 rfl rfl ?_
      refine a_bipush (pc := 117) (v := 8) dX7_station_117 (by decide) ?_
      refine a_iaddN (pc := 119) (a := _) (b := 8) rfl rfl dX7_station_119 ?_
      refine a_iald (pc := 120)  (by assumption) rfl (by omega) (by decide) dX7_station_120 ?_
      refine a_if_ne (pc := 121) (tgt := 129) dX7_station_121 (by decide) (fun c_121 => ?_) (fun c_121 => ?_)
      · refine a_aload_n (pc := 129) dX7_station_129 rfl rfl ?_
        refine a_getr (pc := 130) fl_X7_13 (by assumption) (by decide) (by rfl) dX7_station_130 ?_
        refine a_iload_n (pc := 133) dX7_station_133 rfl rfl ?_
        refine a_iconst (pc := 134) (v := 2) dX7_station_134 (by decide) ?_
        refine a_iaddN (pc := 135) (a := _) (b := 2) rfl rfl dX7_station_135 ?_
        refine a_iald (pc := 136)  (by assumption) rfl (by omega) (by decide) dX7_station_136 ?_
        refine a_iret (pc := 137) rfl dX7_station_137 ?_
        simp_all
      · refine a_bipush (pc := 124) (v := -4) dX7_station_124 (by decide) ?_
        refine a_goto (pc := 126) (tgt := 137) dX7_station_126 (by decide) ?_
        refine a_iret (pc := 137) rfl dX7_station_137 ?_
        simp_all
    · exact absurd c_15 (by decide)

set_option maxHeartbeats 4000000 in
set_option maxRecDepth 100000 in
theorem c_X7_station4 {ν : Mem} {i N : Nat} (h0 : ν 0 2 = nI N) (hN : N ≤ 6) (hiN : i < N) : Con shM mX7_station [.ref 0, .int (nI i), .int 4] ν (fun r u => r = ν 2 (70 * i + 3) ∧ ν = u) := by
  have m0 : shM[0]? = some (7, 18, [none, some 1, none, none, none, none, none, some 2, some 3, none, none, some 4, none, none, some 5, some 6, some 7, some 8]) := rfl
  have m1 : shM[1]? = some (100, 200, []) := rfl
  have m2 : shM[2]? = some (100, 1320, []) := rfl
  have m3 : shM[3]? = some (100, 1760, []) := rfl
  have m4 : shM[4]? = some (100, 4, []) := rfl
  have m5 : shM[5]? = some (100, 6, []) := rfl
  have m6 : shM[6]? = some (100, 6, []) := rfl
  have m7 : shM[7]? = some (100, 6, []) := rfl
  have m8 : shM[8]? = some (100, 6, []) := rfl
  refine Con.ofAW (al0 := [some (.ref 0), some (.int (nI i)), some (.int 4), none]) (by decide) rfl (Nat.le_of_ble_eq_true rfl) rfl ?_
  refine a_aload_n (pc := 0) dX7_station_0 rfl rfl ?_
  refine a_iload_n (pc := 1) dX7_station_1 rfl rfl ?_
  refine a_callI1 (pc := 2) ck_X7_175 ⟨(Nat.le_of_ble_eq_true rfl), (Nat.le_of_ble_eq_true rfl)⟩ (by assumption) (by decide) (Nat.le_of_ble_eq_true rfl) dX7_station_2 rfl (c_X7_isStation h0 (by omega) (by omega)) ?_
  rintro r u ⟨hr, rfl⟩
  have hr1 : r = 1 := by
    rcases hr with q | q
    · exact q.1
    · exact absurd ⟨i, hiN, rfl⟩ q.2
  subst hr1
  refine a_if_eq (pc := 5) (tgt := 18) dX7_station_5 (by decide) (fun c_5 => ?_) (fun c_5 => ?_)
  · exact absurd c_5 (by decide)
  · refine a_iload_n (pc := 8) dX7_station_8 rfl rfl ?_
    refine a_iconst (pc := 9) (v := 0) dX7_station_9 (by decide) ?_
    refine a_bipush (pc := 10) (v := 11) dX7_station_10 (by decide) ?_
    refine a_callS3 (pc := 12) cs_X7_94 ⟨(Nat.le_of_ble_eq_true rfl), (Nat.le_of_ble_eq_true rfl)⟩ (Nat.le_of_ble_eq_true rfl) dX7_station_12 rfl c_X7_isIn ?_
    rintro r u ⟨hr, rfl⟩
    have hr1 : r = 1 := by
      rcases hr with q | q
      · exact q.1
      · exact absurd q.2 (by decide)
    subst hr1
    refine a_if_ne (pc := 15) (tgt := 20) dX7_station_15 (by decide) (fun c_15 => ?_) (fun c_15 => ?_)
    · refine a_iconst (pc := 20) (v := 0) dX7_station_20 (by decide) ?_
      refine a_iload_n (pc := 21) dX7_station_21 rfl rfl ?_
      refine a_callS2 (pc := 22) cs_X7_52 ⟨(Nat.le_of_ble_eq_true rfl), (Nat.le_of_ble_eq_true rfl)⟩ (Nat.le_of_ble_eq_true rfl) dX7_station_22 rfl (c_X7_at (r := 0)) ?_
      rintro r_ u ⟨rfl, rfl⟩
      refine a_istore_n (pc := 25) (al' := [some (.ref _), some (.int _), some (.int _), some (.int _)]) dX7_station_25 rfl (by decide) rfl rfl ?_
      refine a_iload_n (pc := 26) dX7_station_26 rfl rfl ?_
      refine a_tableIn (pc := 27) (off := 111) (tgt := 138) dX7_station_27 (by decide) (by decide) (by decide) (by decide) ?_
      refine a_aload_n (pc := 138) dX7_station_138 rfl rfl ?_
      refine a_getr (pc := 139) fl_X7_13 (by assumption) (by decide) (by rfl) dX7_station_139 ?_
      refine a_iload_n (pc := 142) dX7_station_142 rfl rfl ?_
      refine a_iconst (pc := 143) (v := 3) dX7_station_143 (by decide) ?_
      refine a_iaddN (pc := 144) (a := _) (b := 3) rfl rfl dX7_station_144 ?_
      refine a_iald (pc := 145)  (by assumption) rfl (by omega) (by decide) dX7_station_145 ?_
      refine a_iret (pc := 146) rfl dX7_station_146 ?_
      simp
    · exact absurd c_15 (by decide)

set_option maxHeartbeats 4000000 in
set_option maxRecDepth 100000 in
theorem c_X7_station5 {ν : Mem} {i N : Nat} (h0 : ν 0 2 = nI N) (hN : N ≤ 6) (hiN : i < N) : Con shM mX7_station [.ref 0, .int (nI i), .int 5] ν (fun r u => r = ν 2 (70 * i + 4) ∧ ν = u) := by
  have m0 : shM[0]? = some (7, 18, [none, some 1, none, none, none, none, none, some 2, some 3, none, none, some 4, none, none, some 5, some 6, some 7, some 8]) := rfl
  have m1 : shM[1]? = some (100, 200, []) := rfl
  have m2 : shM[2]? = some (100, 1320, []) := rfl
  have m3 : shM[3]? = some (100, 1760, []) := rfl
  have m4 : shM[4]? = some (100, 4, []) := rfl
  have m5 : shM[5]? = some (100, 6, []) := rfl
  have m6 : shM[6]? = some (100, 6, []) := rfl
  have m7 : shM[7]? = some (100, 6, []) := rfl
  have m8 : shM[8]? = some (100, 6, []) := rfl
  refine Con.ofAW (al0 := [some (.ref 0), some (.int (nI i)), some (.int 5), none]) (by decide) rfl (Nat.le_of_ble_eq_true rfl) rfl ?_
  refine a_aload_n (pc := 0) dX7_station_0 rfl rfl ?_
  refine a_iload_n (pc := 1) dX7_station_1 rfl rfl ?_
  refine a_callI1 (pc := 2) ck_X7_175 ⟨(Nat.le_of_ble_eq_true rfl), (Nat.le_of_ble_eq_true rfl)⟩ (by assumption) (by decide) (Nat.le_of_ble_eq_true rfl) dX7_station_2 rfl (c_X7_isStation h0 (by omega) (by omega)) ?_
  rintro r u ⟨hr, rfl⟩
  have hr1 : r = 1 := by
    rcases hr with q | q
    · exact q.1
    · exact absurd ⟨i, hiN, rfl⟩ q.2
  subst hr1
  refine a_if_eq (pc := 5) (tgt := 18) dX7_station_5 (by decide) (fun c_5 => ?_) (fun c_5 => ?_)
  · exact absurd c_5 (by decide)
  · refine a_iload_n (pc := 8) dX7_station_8 rfl rfl ?_
    refine a_iconst (pc := 9) (v := 0) dX7_station_9 (by decide) ?_
    refine a_bipush (pc := 10) (v := 11) dX7_station_10 (by decide) ?_
    refine a_callS3 (pc := 12) cs_X7_94 ⟨(Nat.le_of_ble_eq_true rfl), (Nat.le_of_ble_eq_true rfl)⟩ (Nat.le_of_ble_eq_true rfl) dX7_station_12 rfl c_X7_isIn ?_
    rintro r u ⟨hr, rfl⟩
    have hr1 : r = 1 := by
      rcases hr with q | q
      · exact q.1
      · exact absurd q.2 (by decide)
    subst hr1
    refine a_if_ne (pc := 15) (tgt := 20) dX7_station_15 (by decide) (fun c_15 => ?_) (fun c_15 => ?_)
    · refine a_iconst (pc := 20) (v := 0) dX7_station_20 (by decide) ?_
      refine a_iload_n (pc := 21) dX7_station_21 rfl rfl ?_
      refine a_callS2 (pc := 22) cs_X7_52 ⟨(Nat.le_of_ble_eq_true rfl), (Nat.le_of_ble_eq_true rfl)⟩ (Nat.le_of_ble_eq_true rfl) dX7_station_22 rfl (c_X7_at (r := 0)) ?_
      rintro r_ u ⟨rfl, rfl⟩
      refine a_istore_n (pc := 25) (al' := [some (.ref _), some (.int _), some (.int _), some (.int _)]) dX7_station_25 rfl (by decide) rfl rfl ?_
      refine a_iload_n (pc := 26) dX7_station_26 rfl rfl ?_
      refine a_tableIn (pc := 27) (off := 120) (tgt := 147) dX7_station_27 (by decide) (by decide) (by decide) (by decide) ?_
      refine a_aload_n (pc := 147) dX7_station_147 rfl rfl ?_
      refine a_getr (pc := 148) fl_X7_13 (by assumption) (by decide) (by rfl) dX7_station_148 ?_
      refine a_iload_n (pc := 151) dX7_station_151 rfl rfl ?_
      refine a_iconst (pc := 152) (v := 4) dX7_station_152 (by decide) ?_
      refine a_iaddN (pc := 153) (a := _) (b := 4) rfl rfl dX7_station_153 ?_
      refine a_iald (pc := 154)  (by assumption) rfl (by omega) (by decide) dX7_station_154 ?_
      refine a_iret (pc := 155) rfl dX7_station_155 ?_
      simp
    · exact absurd c_15 (by decide)

set_option maxHeartbeats 4000000 in
set_option maxRecDepth 100000 in
theorem c_X7_station6 {ν : Mem} {i N : Nat} (h0 : ν 0 2 = nI N) (hN : N ≤ 6) (hiN : i < N) : Con shM mX7_station [.ref 0, .int (nI i), .int 6] ν (fun r u => r = ν 2 (70 * i + 5) ∧ ν = u) := by
  have m0 : shM[0]? = some (7, 18, [none, some 1, none, none, none, none, none, some 2, some 3, none, none, some 4, none, none, some 5, some 6, some 7, some 8]) := rfl
  have m1 : shM[1]? = some (100, 200, []) := rfl
  have m2 : shM[2]? = some (100, 1320, []) := rfl
  have m3 : shM[3]? = some (100, 1760, []) := rfl
  have m4 : shM[4]? = some (100, 4, []) := rfl
  have m5 : shM[5]? = some (100, 6, []) := rfl
  have m6 : shM[6]? = some (100, 6, []) := rfl
  have m7 : shM[7]? = some (100, 6, []) := rfl
  have m8 : shM[8]? = some (100, 6, []) := rfl
  refine Con.ofAW (al0 := [some (.ref 0), some (.int (nI i)), some (.int 6), none]) (by decide) rfl (Nat.le_of_ble_eq_true rfl) rfl ?_
  refine a_aload_n (pc := 0) dX7_station_0 rfl rfl ?_
  refine a_iload_n (pc := 1) dX7_station_1 rfl rfl ?_
  refine a_callI1 (pc := 2) ck_X7_175 ⟨(Nat.le_of_ble_eq_true rfl), (Nat.le_of_ble_eq_true rfl)⟩ (by assumption) (by decide) (Nat.le_of_ble_eq_true rfl) dX7_station_2 rfl (c_X7_isStation h0 (by omega) (by omega)) ?_
  rintro r u ⟨hr, rfl⟩
  have hr1 : r = 1 := by
    rcases hr with q | q
    · exact q.1
    · exact absurd ⟨i, hiN, rfl⟩ q.2
  subst hr1
  refine a_if_eq (pc := 5) (tgt := 18) dX7_station_5 (by decide) (fun c_5 => ?_) (fun c_5 => ?_)
  · exact absurd c_5 (by decide)
  · refine a_iload_n (pc := 8) dX7_station_8 rfl rfl ?_
    refine a_iconst (pc := 9) (v := 0) dX7_station_9 (by decide) ?_
    refine a_bipush (pc := 10) (v := 11) dX7_station_10 (by decide) ?_
    refine a_callS3 (pc := 12) cs_X7_94 ⟨(Nat.le_of_ble_eq_true rfl), (Nat.le_of_ble_eq_true rfl)⟩ (Nat.le_of_ble_eq_true rfl) dX7_station_12 rfl c_X7_isIn ?_
    rintro r u ⟨hr, rfl⟩
    have hr1 : r = 1 := by
      rcases hr with q | q
      · exact q.1
      · exact absurd q.2 (by decide)
    subst hr1
    refine a_if_ne (pc := 15) (tgt := 20) dX7_station_15 (by decide) (fun c_15 => ?_) (fun c_15 => ?_)
    · refine a_iconst (pc := 20) (v := 0) dX7_station_20 (by decide) ?_
      refine a_iload_n (pc := 21) dX7_station_21 rfl rfl ?_
      refine a_callS2 (pc := 22) cs_X7_52 ⟨(Nat.le_of_ble_eq_true rfl), (Nat.le_of_ble_eq_true rfl)⟩ (Nat.le_of_ble_eq_true rfl) dX7_station_22 rfl (c_X7_at (r := 0)) ?_
      rintro r_ u ⟨rfl, rfl⟩
      refine a_istore_n (pc := 25) (al' := [some (.ref _), some (.int _), some (.int _), some (.int _)]) dX7_station_25 rfl (by decide) rfl rfl ?_
      refine a_iload_n (pc := 26) dX7_station_26 rfl rfl ?_
      refine a_tableIn (pc := 27) (off := 129) (tgt := 156) dX7_station_27 (by decide) (by decide) (by decide) (by decide) ?_
      refine a_aload_n (pc := 156) dX7_station_156 rfl rfl ?_
      refine a_getr (pc := 157) fl_X7_13 (by assumption) (by decide) (by rfl) dX7_station_157 ?_
      refine a_iload_n (pc := 160) dX7_station_160 rfl rfl ?_
      refine a_iconst (pc := 161) (v := 5) dX7_station_161 (by decide) ?_
      refine a_iaddN (pc := 162) (a := _) (b := 5) rfl rfl dX7_station_162 ?_
      refine a_iald (pc := 163)  (by assumption) rfl (by omega) (by decide) dX7_station_163 ?_
      refine a_iret (pc := 164) rfl dX7_station_164 ?_
      simp
    · exact absurd c_15 (by decide)

set_option maxHeartbeats 4000000 in
set_option maxRecDepth 100000 in
theorem c_X7_station7 {ν : Mem} {i N : Nat} (h0 : ν 0 2 = nI N) (hN : N ≤ 6) (hiN : i < N) : Con shM mX7_station [.ref 0, .int (nI i), .int 7] ν (fun r u => r = ν 2 (70 * i + 6) ∧ ν = u) := by
  have m0 : shM[0]? = some (7, 18, [none, some 1, none, none, none, none, none, some 2, some 3, none, none, some 4, none, none, some 5, some 6, some 7, some 8]) := rfl
  have m1 : shM[1]? = some (100, 200, []) := rfl
  have m2 : shM[2]? = some (100, 1320, []) := rfl
  have m3 : shM[3]? = some (100, 1760, []) := rfl
  have m4 : shM[4]? = some (100, 4, []) := rfl
  have m5 : shM[5]? = some (100, 6, []) := rfl
  have m6 : shM[6]? = some (100, 6, []) := rfl
  have m7 : shM[7]? = some (100, 6, []) := rfl
  have m8 : shM[8]? = some (100, 6, []) := rfl
  refine Con.ofAW (al0 := [some (.ref 0), some (.int (nI i)), some (.int 7), none]) (by decide) rfl (Nat.le_of_ble_eq_true rfl) rfl ?_
  refine a_aload_n (pc := 0) dX7_station_0 rfl rfl ?_
  refine a_iload_n (pc := 1) dX7_station_1 rfl rfl ?_
  refine a_callI1 (pc := 2) ck_X7_175 ⟨(Nat.le_of_ble_eq_true rfl), (Nat.le_of_ble_eq_true rfl)⟩ (by assumption) (by decide) (Nat.le_of_ble_eq_true rfl) dX7_station_2 rfl (c_X7_isStation h0 (by omega) (by omega)) ?_
  rintro r u ⟨hr, rfl⟩
  have hr1 : r = 1 := by
    rcases hr with q | q
    · exact q.1
    · exact absurd ⟨i, hiN, rfl⟩ q.2
  subst hr1
  refine a_if_eq (pc := 5) (tgt := 18) dX7_station_5 (by decide) (fun c_5 => ?_) (fun c_5 => ?_)
  · exact absurd c_5 (by decide)
  · refine a_iload_n (pc := 8) dX7_station_8 rfl rfl ?_
    refine a_iconst (pc := 9) (v := 0) dX7_station_9 (by decide) ?_
    refine a_bipush (pc := 10) (v := 11) dX7_station_10 (by decide) ?_
    refine a_callS3 (pc := 12) cs_X7_94 ⟨(Nat.le_of_ble_eq_true rfl), (Nat.le_of_ble_eq_true rfl)⟩ (Nat.le_of_ble_eq_true rfl) dX7_station_12 rfl c_X7_isIn ?_
    rintro r u ⟨hr, rfl⟩
    have hr1 : r = 1 := by
      rcases hr with q | q
      · exact q.1
      · exact absurd q.2 (by decide)
    subst hr1
    refine a_if_ne (pc := 15) (tgt := 20) dX7_station_15 (by decide) (fun c_15 => ?_) (fun c_15 => ?_)
    · refine a_iconst (pc := 20) (v := 0) dX7_station_20 (by decide) ?_
      refine a_iload_n (pc := 21) dX7_station_21 rfl rfl ?_
      refine a_callS2 (pc := 22) cs_X7_52 ⟨(Nat.le_of_ble_eq_true rfl), (Nat.le_of_ble_eq_true rfl)⟩ (Nat.le_of_ble_eq_true rfl) dX7_station_22 rfl (c_X7_at (r := 0)) ?_
      rintro r_ u ⟨rfl, rfl⟩
      refine a_istore_n (pc := 25) (al' := [some (.ref _), some (.int _), some (.int _), some (.int _)]) dX7_station_25 rfl (by decide) rfl rfl ?_
      refine a_iload_n (pc := 26) dX7_station_26 rfl rfl ?_
      refine a_tableIn (pc := 27) (off := 138) (tgt := 165) dX7_station_27 (by decide) (by decide) (by decide) (by decide) ?_
      refine a_aload_n (pc := 165) dX7_station_165 rfl rfl ?_
      refine a_getr (pc := 166) fl_X7_13 (by assumption) (by decide) (by rfl) dX7_station_166 ?_
      refine a_iload_n (pc := 169) dX7_station_169 rfl rfl ?_
      refine a_bipush (pc := 170) (v := 6) dX7_station_170 (by decide) ?_
      refine a_iaddN (pc := 172) (a := _) (b := 6) rfl rfl dX7_station_172 ?_
      refine a_iald (pc := 173)  (by assumption) rfl (by omega) (by decide) dX7_station_173 ?_
      refine a_iret (pc := 174) rfl dX7_station_174 ?_
      simp
    · exact absurd c_15 (by decide)

set_option maxHeartbeats 4000000 in
set_option maxRecDepth 100000 in
theorem c_X7_station8 {ν : Mem} {i N : Nat} (h0 : ν 0 2 = nI N) (hN : N ≤ 6) (hiN : i < N) : Con shM mX7_station [.ref 0, .int (nI i), .int 8] ν (fun r u => r = ν 2 (70 * i + 7) ∧ ν = u) := by
  have m0 : shM[0]? = some (7, 18, [none, some 1, none, none, none, none, none, some 2, some 3, none, none, some 4, none, none, some 5, some 6, some 7, some 8]) := rfl
  have m1 : shM[1]? = some (100, 200, []) := rfl
  have m2 : shM[2]? = some (100, 1320, []) := rfl
  have m3 : shM[3]? = some (100, 1760, []) := rfl
  have m4 : shM[4]? = some (100, 4, []) := rfl
  have m5 : shM[5]? = some (100, 6, []) := rfl
  have m6 : shM[6]? = some (100, 6, []) := rfl
  have m7 : shM[7]? = some (100, 6, []) := rfl
  have m8 : shM[8]? = some (100, 6, []) := rfl
  refine Con.ofAW (al0 := [some (.ref 0), some (.int (nI i)), some (.int 8), none]) (by decide) rfl (Nat.le_of_ble_eq_true rfl) rfl ?_
  refine a_aload_n (pc := 0) dX7_station_0 rfl rfl ?_
  refine a_iload_n (pc := 1) dX7_station_1 rfl rfl ?_
  refine a_callI1 (pc := 2) ck_X7_175 ⟨(Nat.le_of_ble_eq_true rfl), (Nat.le_of_ble_eq_true rfl)⟩ (by assumption) (by decide) (Nat.le_of_ble_eq_true rfl) dX7_station_2 rfl (c_X7_isStation h0 (by omega) (by omega)) ?_
  rintro r u ⟨hr, rfl⟩
  have hr1 : r = 1 := by
    rcases hr with q | q
    · exact q.1
    · exact absurd ⟨i, hiN, rfl⟩ q.2
  subst hr1
  refine a_if_eq (pc := 5) (tgt := 18) dX7_station_5 (by decide) (fun c_5 => ?_) (fun c_5 => ?_)
  · exact absurd c_5 (by decide)
  · refine a_iload_n (pc := 8) dX7_station_8 rfl rfl ?_
    refine a_iconst (pc := 9) (v := 0) dX7_station_9 (by decide) ?_
    refine a_bipush (pc := 10) (v := 11) dX7_station_10 (by decide) ?_
    refine a_callS3 (pc := 12) cs_X7_94 ⟨(Nat.le_of_ble_eq_true rfl), (Nat.le_of_ble_eq_true rfl)⟩ (Nat.le_of_ble_eq_true rfl) dX7_station_12 rfl c_X7_isIn ?_
    rintro r u ⟨hr, rfl⟩
    have hr1 : r = 1 := by
      rcases hr with q | q
      · exact q.1
      · exact absurd q.2 (by decide)
    subst hr1
    refine a_if_ne (pc := 15) (tgt := 20) dX7_station_15 (by decide) (fun c_15 => ?_) (fun c_15 => ?_)
    · refine a_iconst (pc := 20) (v := 0) dX7_station_20 (by decide) ?_
      refine a_iload_n (pc := 21) dX7_station_21 rfl rfl ?_
      refine a_callS2 (pc := 22) cs_X7_52 ⟨(Nat.le_of_ble_eq_true rfl), (Nat.le_of_ble_eq_true rfl)⟩ (Nat.le_of_ble_eq_true rfl) dX7_station_22 rfl (c_X7_at (r := 0)) ?_
      rintro r_ u ⟨rfl, rfl⟩
      refine a_istore_n (pc := 25) (al' := [some (.ref _), some (.int _), some (.int _), some (.int _)]) dX7_station_25 rfl (by decide) rfl rfl ?_
      refine a_iload_n (pc := 26) dX7_station_26 rfl rfl ?_
      refine a_tableIn (pc := 27) (off := 148) (tgt := 175) dX7_station_27 (by decide) (by decide) (by decide) (by decide) ?_
      refine a_aload_n (pc := 175) dX7_station_175 rfl rfl ?_
      refine a_getr (pc := 176) fl_X7_13 (by assumption) (by decide) (by rfl) dX7_station_176 ?_
      refine a_iload_n (pc := 179) dX7_station_179 rfl rfl ?_
      refine a_bipush (pc := 180) (v := 7) dX7_station_180 (by decide) ?_
      refine a_iaddN (pc := 182) (a := _) (b := 7) rfl rfl dX7_station_182 ?_
      refine a_iald (pc := 183)  (by assumption) rfl (by omega) (by decide) dX7_station_183 ?_
      refine a_iret (pc := 184) rfl dX7_station_184 ?_
      simp
    · exact absurd c_15 (by decide)

set_option maxHeartbeats 4000000 in
set_option maxRecDepth 100000 in
theorem c_X7_station10 {ν : Mem} {i N : Nat} (h0 : ν 0 2 = nI N) (hN : N ≤ 6) (hiN : i < N) : Con shM mX7_station [.ref 0, .int (nI i), .int 10] ν (fun r u => r = ν 2 (420 + i) ∧ ν = u) := by
  have m0 : shM[0]? = some (7, 18, [none, some 1, none, none, none, none, none, some 2, some 3, none, none, some 4, none, none, some 5, some 6, some 7, some 8]) := rfl
  have m1 : shM[1]? = some (100, 200, []) := rfl
  have m2 : shM[2]? = some (100, 1320, []) := rfl
  have m3 : shM[3]? = some (100, 1760, []) := rfl
  have m4 : shM[4]? = some (100, 4, []) := rfl
  have m5 : shM[5]? = some (100, 6, []) := rfl
  have m6 : shM[6]? = some (100, 6, []) := rfl
  have m7 : shM[7]? = some (100, 6, []) := rfl
  have m8 : shM[8]? = some (100, 6, []) := rfl
  refine Con.ofAW (al0 := [some (.ref 0), some (.int (nI i)), some (.int 10), none]) (by decide) rfl (Nat.le_of_ble_eq_true rfl) rfl ?_
  refine a_aload_n (pc := 0) dX7_station_0 rfl rfl ?_
  refine a_iload_n (pc := 1) dX7_station_1 rfl rfl ?_
  refine a_callI1 (pc := 2) ck_X7_175 ⟨(Nat.le_of_ble_eq_true rfl), (Nat.le_of_ble_eq_true rfl)⟩ (by assumption) (by decide) (Nat.le_of_ble_eq_true rfl) dX7_station_2 rfl (c_X7_isStation h0 (by omega) (by omega)) ?_
  rintro r u ⟨hr, rfl⟩
  have hr1 : r = 1 := by
    rcases hr with q | q
    · exact q.1
    · exact absurd ⟨i, hiN, rfl⟩ q.2
  subst hr1
  refine a_if_eq (pc := 5) (tgt := 18) dX7_station_5 (by decide) (fun c_5 => ?_) (fun c_5 => ?_)
  · exact absurd c_5 (by decide)
  · refine a_iload_n (pc := 8) dX7_station_8 rfl rfl ?_
    refine a_iconst (pc := 9) (v := 0) dX7_station_9 (by decide) ?_
    refine a_bipush (pc := 10) (v := 11) dX7_station_10 (by decide) ?_
    refine a_callS3 (pc := 12) cs_X7_94 ⟨(Nat.le_of_ble_eq_true rfl), (Nat.le_of_ble_eq_true rfl)⟩ (Nat.le_of_ble_eq_true rfl) dX7_station_12 rfl c_X7_isIn ?_
    rintro r u ⟨hr, rfl⟩
    have hr1 : r = 1 := by
      rcases hr with q | q
      · exact q.1
      · exact absurd q.2 (by decide)
    subst hr1
    refine a_if_ne (pc := 15) (tgt := 20) dX7_station_15 (by decide) (fun c_15 => ?_) (fun c_15 => ?_)
    · refine a_iconst (pc := 20) (v := 0) dX7_station_20 (by decide) ?_
      refine a_iload_n (pc := 21) dX7_station_21 rfl rfl ?_
      refine a_callS2 (pc := 22) cs_X7_52 ⟨(Nat.le_of_ble_eq_true rfl), (Nat.le_of_ble_eq_true rfl)⟩ (Nat.le_of_ble_eq_true rfl) dX7_station_22 rfl (c_X7_at (r := 0)) ?_
      rintro r_ u ⟨rfl, rfl⟩
      refine a_istore_n (pc := 25) (al' := [some (.ref _), some (.int _), some (.int _), some (.int _)]) dX7_station_25 rfl (by decide) rfl rfl ?_
      refine a_iload_n (pc := 26) dX7_station_26 rfl rfl ?_
      refine a_tableIn (pc := 27) (off := 181) (tgt := 208) dX7_station_27 (by decide) (by decide) (by decide) (by decide) ?_
      refine a_aload_n (pc := 208) dX7_station_208 rfl rfl ?_
      refine a_getr (pc := 209) fl_X7_13 (by assumption) (by decide) (by rfl) dX7_station_209 ?_
      refine a_sipush (pc := 212) (v := 420) dX7_station_212 (by decide) ?_
      refine a_iload_n (pc := 215) dX7_station_215 rfl rfl ?_
      refine a_iaddN (pc := 216) (a := 420) (b := _) rfl rfl dX7_station_216 ?_
      refine a_iald (pc := 217)  (by assumption) rfl (by omega) (by decide) dX7_station_217 ?_
      refine a_iret (pc := 218) rfl dX7_station_218 ?_
      simp
    · exact absurd c_15 (by decide)

set_option maxHeartbeats 4000000 in
set_option maxRecDepth 100000 in
theorem c_X7_station11 {ν : Mem} {i N : Nat} (h0 : ν 0 2 = nI N) (hN : N ≤ 6) (hiN : i < N) : Con shM mX7_station [.ref 0, .int (nI i), .int 11] ν (fun r u => r = (if ¬ ν 2 (70 * i + 26) ≤ 0 ∧ ν 2 (70 * i + 27) = ν 2 426 + 1 then 1 else 0) ∧ ν = u) := by
  have m0 : shM[0]? = some (7, 18, [none, some 1, none, none, none, none, none, some 2, some 3, none, none, some 4, none, none, some 5, some 6, some 7, some 8]) := rfl
  have m1 : shM[1]? = some (100, 200, []) := rfl
  have m2 : shM[2]? = some (100, 1320, []) := rfl
  have m3 : shM[3]? = some (100, 1760, []) := rfl
  have m4 : shM[4]? = some (100, 4, []) := rfl
  have m5 : shM[5]? = some (100, 6, []) := rfl
  have m6 : shM[6]? = some (100, 6, []) := rfl
  have m7 : shM[7]? = some (100, 6, []) := rfl
  have m8 : shM[8]? = some (100, 6, []) := rfl
  refine Con.ofAW (al0 := [some (.ref 0), some (.int (nI i)), some (.int 11), none]) (by decide) rfl (Nat.le_of_ble_eq_true rfl) rfl ?_
  refine a_aload_n (pc := 0) dX7_station_0 rfl rfl ?_
  refine a_iload_n (pc := 1) dX7_station_1 rfl rfl ?_
  refine a_callI1 (pc := 2) ck_X7_175 ⟨(Nat.le_of_ble_eq_true rfl), (Nat.le_of_ble_eq_true rfl)⟩ (by assumption) (by decide) (Nat.le_of_ble_eq_true rfl) dX7_station_2 rfl (c_X7_isStation h0 (by omega) (by omega)) ?_
  rintro r u ⟨hr, rfl⟩
  have hr1 : r = 1 := by
    rcases hr with q | q
    · exact q.1
    · exact absurd ⟨i, hiN, rfl⟩ q.2
  subst hr1
  refine a_if_eq (pc := 5) (tgt := 18) dX7_station_5 (by decide) (fun c_5 => ?_) (fun c_5 => ?_)
  · exact absurd c_5 (by decide)
  · refine a_iload_n (pc := 8) dX7_station_8 rfl rfl ?_
    refine a_iconst (pc := 9) (v := 0) dX7_station_9 (by decide) ?_
    refine a_bipush (pc := 10) (v := 11) dX7_station_10 (by decide) ?_
    refine a_callS3 (pc := 12) cs_X7_94 ⟨(Nat.le_of_ble_eq_true rfl), (Nat.le_of_ble_eq_true rfl)⟩ (Nat.le_of_ble_eq_true rfl) dX7_station_12 rfl c_X7_isIn ?_
    rintro r u ⟨hr, rfl⟩
    have hr1 : r = 1 := by
      rcases hr with q | q
      · exact q.1
      · exact absurd q.2 (by decide)
    subst hr1
    refine a_if_ne (pc := 15) (tgt := 20) dX7_station_15 (by decide) (fun c_15 => ?_) (fun c_15 => ?_)
    · refine a_iconst (pc := 20) (v := 0) dX7_station_20 (by decide) ?_
      refine a_iload_n (pc := 21) dX7_station_21 rfl rfl ?_
      refine a_callS2 (pc := 22) cs_X7_52 ⟨(Nat.le_of_ble_eq_true rfl), (Nat.le_of_ble_eq_true rfl)⟩ (Nat.le_of_ble_eq_true rfl) dX7_station_22 rfl (c_X7_at (r := 0)) ?_
      rintro r_ u ⟨rfl, rfl⟩
      refine a_istore_n (pc := 25) (al' := [some (.ref _), some (.int _), some (.int _), some (.int _)]) dX7_station_25 rfl (by decide) rfl rfl ?_
      refine a_iload_n (pc := 26) dX7_station_26 rfl rfl ?_
      refine a_tableOut (pc := 27) (tgt := 219) dX7_station_27 (by decide) (by decide) ?_
      refine a_aload_n (pc := 219) dX7_station_219 rfl rfl ?_
      refine a_getr (pc := 220) fl_X7_13 (by assumption) (by decide) (by rfl) dX7_station_220 ?_
      refine a_iload_n (pc := 223) dX7_station_223 rfl rfl ?_
      refine a_bipush (pc := 224) (v := 26) dX7_station_224 (by decide) ?_
      refine a_iaddN (pc := 226) (a := _) (b := 26) rfl rfl dX7_station_226 ?_
      refine a_iald (pc := 227)  (by assumption) rfl (by omega) (by decide) dX7_station_227 ?_
      refine a_if_le (pc := 228) (tgt := 257) dX7_station_228 (by decide) (fun c_228 => ?_) (fun c_228 => ?_)
      · refine a_iconst (pc := 257) (v := 0) dX7_station_257 (by decide) ?_
        refine a_iret (pc := 258) rfl dX7_station_258 ?_
        simp_all
      · refine a_aload_n (pc := 231) dX7_station_231 rfl rfl ?_
        refine a_getr (pc := 232) fl_X7_13 (by assumption) (by decide) (by rfl) dX7_station_232 ?_
        refine a_iload_n (pc := 235) dX7_station_235 rfl rfl ?_
        refine a_bipush (pc := 236) (v := 27) dX7_station_236 (by decide) ?_
        refine a_iaddN (pc := 238) (a := _) (b := 27) rfl rfl dX7_station_238 ?_
        refine a_iald (pc := 239)  (by assumption) rfl (by omega) (by decide) dX7_station_239 ?_
        refine a_aload_n (pc := 240) dX7_station_240 rfl rfl ?_
        refine a_getr (pc := 241) fl_X7_13 (by assumption) (by decide) (by rfl) dX7_station_241 ?_
        refine a_sipush (pc := 244) (v := 426) dX7_station_244 (by decide) ?_
        refine a_iald (pc := 247) (j := 426) (by assumption) rfl (by omega) (by decide) dX7_station_247 ?_
        refine a_iconst (pc := 248) (v := 1) dX7_station_248 (by decide) ?_
        refine a_iadd (pc := 249) dX7_station_249 ?_
        refine a_icmp_ne (pc := 250) (tgt := 257) dX7_station_250 (by decide) (fun c_250 => ?_) (fun c_250 => ?_)
        · refine a_iconst (pc := 257) (v := 0) dX7_station_257 (by decide) ?_
          refine a_iret (pc := 258) rfl dX7_station_258 ?_
          simp_all
        · refine a_iconst (pc := 253) (v := 1) dX7_station_253 (by decide) ?_
          refine a_goto (pc := 254) (tgt := 258) dX7_station_254 (by decide) ?_
          refine a_iret (pc := 258) rfl dX7_station_258 ?_
          simp_all
    · exact absurd c_15 (by decide)

