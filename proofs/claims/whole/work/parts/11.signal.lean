/-! Signal, LetterRow, Memory -/
def putF (μ : Mem) (o : Nat) (k t l p : Int32) : Mem := up2 (up2 (up2 (up2 μ o 0 k) o 1 t) o 2 l) o 3 p
set_option maxHeartbeats 4000000 in
set_option maxRecDepth 100000 in
theorem c_X4_put {μ : Mem} {o : Nat} {k t l p : Int32} (h : isSig o) : Con shC mX4_put [.ref o, .int k, .int t, .int l, .int p] μ (fun _ u => u = putF μ o k t l p) := by
  have h0 : shC[o]? = _ := h
  refine Con.ofAW (al0 := [some (.ref o), some (.int k), some (.int t), some (.int l), some (.int p)]) (by decide) rfl (Nat.le_of_ble_eq_true rfl) rfl ?_
  refine a_aload_n (pc := 0) dX4_put_0 rfl rfl ?_
  refine a_iload_n (pc := 1) dX4_put_1 rfl rfl ?_
  refine a_puti (pc := 2) fp_X4_9 (by assumption) (by decide) (by rfl) dX4_put_2 ?_
  refine a_aload_n (pc := 5) dX4_put_5 rfl rfl ?_
  refine a_iload_n (pc := 6) dX4_put_6 rfl rfl ?_
  refine a_puti (pc := 7) fp_X4_15 (by assumption) (by decide) (by rfl) dX4_put_7 ?_
  refine a_aload_n (pc := 10) dX4_put_10 rfl rfl ?_
  refine a_iload_n (pc := 11) dX4_put_11 rfl rfl ?_
  refine a_puti (pc := 12) fp_X4_18 (by assumption) (by decide) (by rfl) dX4_put_12 ?_
  refine a_aload_n (pc := 15) dX4_put_15 rfl rfl ?_
  refine a_iload (pc := 16) dX4_put_16 rfl ?_
  refine a_puti (pc := 18) fp_X4_21 (by assumption) (by decide) (by rfl) dX4_put_18 ?_
  refine a_vret (pc := 21) rfl dX4_put_21 ?_
  exact rfl

set_option maxHeartbeats 4000000 in
set_option maxRecDepth 100000 in
theorem c_X4_clear {μ : Mem} {o : Nat} (h : isSig o) : Con shC mX4_clear [.ref o] μ (fun _ u => u = putF μ o 0 0 0 0) := by
  have h0 : shC[o]? = _ := h
  refine Con.ofAW (al0 := [some (.ref o)]) (by decide) rfl (Nat.le_of_ble_eq_true rfl) rfl ?_
  refine a_aload_n (pc := 0) dX4_clear_0 rfl rfl ?_
  refine a_iconst (pc := 1) (v := 0) dX4_clear_1 (by decide) ?_
  refine a_iconst (pc := 2) (v := 0) dX4_clear_2 (by decide) ?_
  refine a_iconst (pc := 3) (v := 0) dX4_clear_3 (by decide) ?_
  refine a_iconst (pc := 4) (v := 0) dX4_clear_4 (by decide) ?_
  refine a_callV4 (pc := 5) ck_X4_24 ⟨(Nat.le_of_ble_eq_true rfl), (Nat.le_of_ble_eq_true rfl)⟩ (by assumption) (by decide) (Nat.le_of_ble_eq_true rfl) dX4_clear_5 rfl (c_X4_put h) ?_
  rintro u rfl
  refine a_vret (pc := 8) rfl dX4_clear_8 ?_
  exact rfl

set_option maxHeartbeats 4000000 in
set_option maxRecDepth 100000 in
theorem c_X4_copyFrom {μ : Mem} {o q : Nat} (h : isSig o) (hq : isSig q) : Con shC mX4_copyFrom [.ref o, .ref q] μ (fun _ u => u = putF μ o (μ q 0) (μ q 1) (μ q 2) (μ q 3)) := by
  have h0 : shC[o]? = _ := h
  have h1 : shC[q]? = _ := hq
  refine Con.ofAW (al0 := [some (.ref o), some (.ref q)]) (by decide) rfl (Nat.le_of_ble_eq_true rfl) rfl ?_
  refine a_aload_n (pc := 0) dX4_copyFrom_0 rfl rfl ?_
  refine a_aload_n (pc := 1) dX4_copyFrom_1 rfl rfl ?_
  refine a_geti (pc := 2) fl_X4_9 (by assumption) (by decide) (by rfl) dX4_copyFrom_2 ?_
  refine a_aload_n (pc := 5) dX4_copyFrom_5 rfl rfl ?_
  refine a_geti (pc := 6) fl_X4_15 (by assumption) (by decide) (by rfl) dX4_copyFrom_6 ?_
  refine a_aload_n (pc := 9) dX4_copyFrom_9 rfl rfl ?_
  refine a_geti (pc := 10) fl_X4_18 (by assumption) (by decide) (by rfl) dX4_copyFrom_10 ?_
  refine a_aload_n (pc := 13) dX4_copyFrom_13 rfl rfl ?_
  refine a_geti (pc := 14) fl_X4_21 (by assumption) (by decide) (by rfl) dX4_copyFrom_14 ?_
  refine a_callV4 (pc := 17) ck_X4_24 ⟨(Nat.le_of_ble_eq_true rfl), (Nat.le_of_ble_eq_true rfl)⟩ (by assumption) (by decide) (Nat.le_of_ble_eq_true rfl) dX4_copyFrom_17 rfl (c_X4_put h) ?_
  rintro u rfl
  refine a_vret (pc := 20) rfl dX4_copyFrom_20 ?_
  exact rfl

def addF (μ : Mem) (o s : Nat) (t l : Int32) : Mem := up2 (up2 (up2 μ (o + 1) s t) (o + 2) s l) o 0 (nI (s + 1))
set_option maxHeartbeats 4000000 in
set_option maxRecDepth 100000 in
theorem c_X0_add {μ : Mem} {o s : Nat} {t l : Int32} (h : isRow o) (hs : μ o 0 = nI s) (hl : s < 6) : Con shC mX0_add [.ref o, .int t, .int l] μ (fun _ u => u = addF μ o s t l) := by
  obtain ⟨h0, h1, h2⟩ := id h
  refine Con.ofAW (al0 := [some (.ref o), some (.int t), some (.int l)]) (by decide) rfl (Nat.le_of_ble_eq_true rfl) rfl ?_
  refine a_aload_n (pc := 0) dX0_add_0 rfl rfl ?_
  refine a_geti (pc := 1) fl_X0_18 (by assumption) (by decide) (by rfl) dX0_add_1 ?_
  refine a_bipush (pc := 4) (v := 6) dX0_add_4 (by decide) ?_
  refine a_icmp_ge (pc := 6) (tgt := 39) dX0_add_6 (by decide) (fun c_6 => ?_) (fun c_6 => ?_)
  · exact absurd (hs ▸ c_6) (nI_ge hl (by decide))
  · refine a_aload_n (pc := 9) dX0_add_9 rfl rfl ?_
    refine a_getr (pc := 10) fl_X0_9 (by assumption) (by decide) (by rfl) dX0_add_10 ?_
    refine a_aload_n (pc := 13) dX0_add_13 rfl rfl ?_
    refine a_geti (pc := 14) fl_X0_18 (by assumption) (by decide) (by rfl) dX0_add_14 ?_
    refine a_top (y := nI s) (by simp [up2, upd, upA, hs]) ?_
    refine a_iload_n (pc := 17) dX0_add_17 rfl rfl ?_
    refine a_iast (pc := 18)  (by assumption) rfl (by omega) (by decide) dX0_add_18 ?_
    refine a_aload_n (pc := 19) dX0_add_19 rfl rfl ?_
    refine a_getr (pc := 20) fl_X0_15 (by assumption) (by decide) (by rfl) dX0_add_20 ?_
    refine a_aload_n (pc := 23) dX0_add_23 rfl rfl ?_
    refine a_geti (pc := 24) fl_X0_18 (by assumption) (by decide) (by rfl) dX0_add_24 ?_
    refine a_top (y := nI s) (by simp [up2, upd, upA, hs]) ?_
    refine a_iload_n (pc := 27) dX0_add_27 rfl rfl ?_
    refine a_iast (pc := 28)  (by assumption) rfl (by omega) (by decide) dX0_add_28 ?_
    refine a_aload_n (pc := 29) dX0_add_29 rfl rfl ?_
    refine a_dup (pc := 30) dX0_add_30 rfl ?_
    refine a_geti (pc := 31) fl_X0_18 (by assumption) (by decide) (by rfl) dX0_add_31 ?_
    refine a_top (y := nI s) (by simp [up2, upd, upA, hs]) ?_
    refine a_iconst (pc := 34) (v := 1) dX0_add_34 (by decide) ?_
    refine a_iaddN (pc := 35) (a := _) (b := 1) rfl rfl dX0_add_35 ?_
    refine a_puti (pc := 36) fp_X0_18 (by assumption) (by decide) (by rfl) dX0_add_36 ?_
    refine a_vret (pc := 39) rfl dX0_add_39 ?_
    exact rfl

def rmvF (μ : Mem) (o s : Nat) : Mem := upA (upA (up2 μ o 0 (nI s)) (o + 1) (va_cpy (μ (o + 1)) (μ (o + 1)) 1 0 s)) (o + 2) (va_cpy (μ (o + 2)) (μ (o + 2)) 1 0 s)
set_option maxHeartbeats 4000000 in
set_option maxRecDepth 100000 in
theorem c_X0_removeFirst {μ : Mem} {o s : Nat} (h : isRow o) (hs : μ o 0 = nI (s + 1)) (hl : s < 6) : Con shC mX0_removeFirst [.ref o] μ (fun _ u => u = rmvF μ o s) := by
  obtain ⟨h0, h1, h2⟩ := id h
  refine Con.ofAW (al0 := [some (.ref o)]) (by decide) rfl (Nat.le_of_ble_eq_true rfl) rfl ?_
  refine a_aload_n (pc := 0) dX0_removeFirst_0 rfl rfl ?_
  refine a_geti (pc := 1) fl_X0_18 (by assumption) (by decide) (by rfl) dX0_removeFirst_1 ?_
  refine a_if_le (pc := 4) (tgt := 51) dX0_removeFirst_4 (by decide) (fun c_4 => ?_) (fun c_4 => ?_)
  · exact absurd (hs ▸ c_4) (nI_nle (Nat.succ_pos s) (by omega))
  · refine a_aload_n (pc := 7) dX0_removeFirst_7 rfl rfl ?_
    refine a_dup (pc := 8) dX0_removeFirst_8 rfl ?_
    refine a_geti (pc := 9) fl_X0_18 (by assumption) (by decide) (by rfl) dX0_removeFirst_9 ?_
    refine a_top (y := nI (s + 1)) hs ?_
    refine a_iconst (pc := 12) (v := 1) dX0_removeFirst_12 (by decide) ?_
    refine a_isubN (pc := 13) (a := _) (b := 1) rfl rfl (Nat.le_add_left 1 s) dX0_removeFirst_13 ?_
    refine a_puti (pc := 14) fp_X0_18 (by assumption) (by decide) (by rfl) dX0_removeFirst_14 ?_
    refine a_aload_n (pc := 17) dX0_removeFirst_17 rfl rfl ?_
    refine a_getr (pc := 18) fl_X0_9 (by assumption) (by decide) (by rfl) dX0_removeFirst_18 ?_
    refine a_iconst (pc := 21) (v := 1) dX0_removeFirst_21 (by decide) ?_
    refine a_aload_n (pc := 22) dX0_removeFirst_22 rfl rfl ?_
    refine a_getr (pc := 23) fl_X0_9 (by assumption) (by decide) (by rfl) dX0_removeFirst_23 ?_
    refine a_iconst (pc := 26) (v := 0) dX0_removeFirst_26 (by decide) ?_
    refine a_aload_n (pc := 27) dX0_removeFirst_27 rfl rfl ?_
    refine a_geti (pc := 28) fl_X0_18 (by assumption) (by decide) (by rfl) dX0_removeFirst_28 ?_
    refine a_top (y := nI s) (by simp [up2, upd, upA, hs]) ?_
    refine a_copy (pc := 31) (js := 1) (jd := 0) (jn := s) (by assumption) (by assumption) rfl rfl rfl (by omega) (by omega) (by decide) (by decide) nl_X0_22 nw_copy1 nw_copy2 nw_copy3 (Nat.le_of_ble_eq_true rfl) (Nat.le_of_ble_eq_true rfl) dX0_removeFirst_31 ?_
    refine a_aload_n (pc := 34) dX0_removeFirst_34 rfl rfl ?_
    refine a_getr (pc := 35) fl_X0_15 (by assumption) (by decide) (by rfl) dX0_removeFirst_35 ?_
    refine a_iconst (pc := 38) (v := 1) dX0_removeFirst_38 (by decide) ?_
    refine a_aload_n (pc := 39) dX0_removeFirst_39 rfl rfl ?_
    refine a_getr (pc := 40) fl_X0_15 (by assumption) (by decide) (by rfl) dX0_removeFirst_40 ?_
    refine a_iconst (pc := 43) (v := 0) dX0_removeFirst_43 (by decide) ?_
    refine a_aload_n (pc := 44) dX0_removeFirst_44 rfl rfl ?_
    refine a_geti (pc := 45) fl_X0_18 (by assumption) (by decide) (by rfl) dX0_removeFirst_45 ?_
    refine a_top (y := nI s) (by simp [up2, upd, upA, hs]) ?_
    refine a_copy (pc := 48) (js := 1) (jd := 0) (jn := s) (by assumption) (by assumption) rfl rfl rfl (by omega) (by omega) (by decide) (by decide) nl_X0_22 nw_copy1 nw_copy2 nw_copy3 (Nat.le_of_ble_eq_true rfl) (Nat.le_of_ble_eq_true rfl) dX0_removeFirst_48 ?_
    refine a_vret (pc := 51) rfl dX0_removeFirst_51 ?_
    simp [rmvF, up2, upA]

def cpRF (μ : Mem) (o q : Nat) : Mem := upA (upA (up2 μ o 0 (μ q 0)) (o + 1) (va_cpy (μ (q + 1)) (μ (o + 1)) 0 0 6)) (o + 2) (va_cpy (μ (q + 2)) (μ (o + 2)) 0 0 6)
set_option maxHeartbeats 4000000 in
set_option maxRecDepth 100000 in
theorem c_X0_copyFrom {μ : Mem} {o q : Nat} (h : isRow o) (hq : isRow q) (hd : q + 2 < o ∨ o + 2 < q) : Con shC mX0_copyFrom [.ref o, .ref q] μ (fun _ u => u = cpRF μ o q) := by
  obtain ⟨h0, h1, h2⟩ := id h
  obtain ⟨g0, g1, g2⟩ := id hq
  refine Con.ofAW (al0 := [some (.ref o), some (.ref q)]) (by decide) rfl (Nat.le_of_ble_eq_true rfl) rfl ?_
  refine a_aload_n (pc := 0) dX0_copyFrom_0 rfl rfl ?_
  refine a_aload_n (pc := 1) dX0_copyFrom_1 rfl rfl ?_
  refine a_geti (pc := 2) fl_X0_18 (by assumption) (by decide) (by rfl) dX0_copyFrom_2 ?_
  refine a_puti (pc := 5) fp_X0_18 (by assumption) (by decide) (by rfl) dX0_copyFrom_5 ?_
  refine a_aload_n (pc := 8) dX0_copyFrom_8 rfl rfl ?_
  refine a_getr (pc := 9) fl_X0_9 (by assumption) (by decide) (by rfl) dX0_copyFrom_9 ?_
  refine a_iconst (pc := 12) (v := 0) dX0_copyFrom_12 (by decide) ?_
  refine a_aload_n (pc := 13) dX0_copyFrom_13 rfl rfl ?_
  refine a_getr (pc := 14) fl_X0_9 (by assumption) (by decide) (by rfl) dX0_copyFrom_14 ?_
  refine a_iconst (pc := 17) (v := 0) dX0_copyFrom_17 (by decide) ?_
  refine a_bipush (pc := 18) (v := 6) dX0_copyFrom_18 (by decide) ?_
  refine a_copy (pc := 20) (js := 0) (jd := 0) (jn := 6) (by assumption) (by assumption) rfl rfl rfl (by omega) (by omega) (by decide) (by decide) nl_X0_22 nw_copy1 nw_copy2 nw_copy3 (Nat.le_of_ble_eq_true rfl) (Nat.le_of_ble_eq_true rfl) dX0_copyFrom_20 ?_
  refine a_aload_n (pc := 23) dX0_copyFrom_23 rfl rfl ?_
  refine a_getr (pc := 24) fl_X0_15 (by assumption) (by decide) (by rfl) dX0_copyFrom_24 ?_
  refine a_iconst (pc := 27) (v := 0) dX0_copyFrom_27 (by decide) ?_
  refine a_aload_n (pc := 28) dX0_copyFrom_28 rfl rfl ?_
  refine a_getr (pc := 29) fl_X0_15 (by assumption) (by decide) (by rfl) dX0_copyFrom_29 ?_
  refine a_iconst (pc := 32) (v := 0) dX0_copyFrom_32 (by decide) ?_
  refine a_bipush (pc := 33) (v := 6) dX0_copyFrom_33 (by decide) ?_
  refine a_copy (pc := 35) (js := 0) (jd := 0) (jn := 6) (by assumption) (by assumption) rfl rfl rfl (by omega) (by omega) (by decide) (by decide) nl_X0_22 nw_copy1 nw_copy2 nw_copy3 (Nat.le_of_ble_eq_true rfl) (Nat.le_of_ble_eq_true rfl) dX0_copyFrom_35 ?_
  refine a_vret (pc := 38) rfl dX0_copyFrom_38 ?_
  have e1 : q + 1 ≠ o := by omega
  have e2 : q + 2 ≠ o := by omega
  have e3 : q + 2 ≠ o + 1 := by omega
  have e4 : q ≠ o + 1 := by omega
  simp [cpRF, up2, upA, e1, e2, e3, e4]

def memF (μ : Mem) (o h : Nat) (a b c d : Int32) : Mem := up2 (up2 (up2 (up2 (up2 μ (o + 1) (h * 4) a) (o + 1) (h * 4 + 1) b) (o + 1) (h * 4 + 2) c) (o + 1) (h * 4 + 3) d) o 0 (nI (h + 1))
set_option maxHeartbeats 4000000 in
set_option maxRecDepth 100000 in
theorem c_X1_add {μ : Mem} {o h : Nat} {a b c d : Int32} (hm : isMem o) (hs : μ o 0 = nI h) (hl : h < 6) : Con shC mX1_add [.ref o, .int a, .int b, .int c, .int d] μ (fun _ u => u = memF μ o h a b c d) := by
  obtain ⟨h0, h1⟩ := id hm
  refine Con.ofAW (al0 := [some (.ref o), some (.int a), some (.int b), some (.int c), some (.int d), none]) (by decide) rfl (Nat.le_of_ble_eq_true rfl) rfl ?_
  refine a_aload_n (pc := 0) dX1_add_0 rfl rfl ?_
  refine a_geti (pc := 1) fl_X1_15 (by assumption) (by decide) (by rfl) dX1_add_1 ?_
  refine a_bipush (pc := 4) (v := 6) dX1_add_4 (by decide) ?_
  refine a_icmp_ne (pc := 6) (tgt := 38) dX1_add_6 (by decide) (fun c_6 => ?_) (fun c_6 => ?_)
  · refine a_aload_n (pc := 38) dX1_add_38 rfl rfl ?_
    refine a_geti (pc := 39) fl_X1_15 (by assumption) (by decide) (by rfl) dX1_add_39 ?_
    refine a_top (y := nI h) (by simp [up2, upd, upA, hs]) ?_
    refine a_iconst (pc := 42) (v := 4) dX1_add_42 (by decide) ?_
    refine a_imulN (pc := 43) (a := _) (b := 4) rfl rfl dX1_add_43 ?_
    refine a_istore (pc := 44) (al' := [some (.ref _), some (.int _), some (.int _), some (.int _), some (.int _), some (.int _)]) dX1_add_44 (by decide) rfl rfl ?_
    refine a_aload_n (pc := 46) dX1_add_46 rfl rfl ?_
    refine a_getr (pc := 47) fl_X1_11 (by assumption) (by decide) (by rfl) dX1_add_47 ?_
    refine a_iload (pc := 50) dX1_add_50 rfl ?_
    refine a_iload_n (pc := 52) dX1_add_52 rfl rfl ?_
    refine a_iast (pc := 53)  (by assumption) rfl (by omega) (by decide) dX1_add_53 ?_
    refine a_aload_n (pc := 54) dX1_add_54 rfl rfl ?_
    refine a_getr (pc := 55) fl_X1_11 (by assumption) (by decide) (by rfl) dX1_add_55 ?_
    refine a_iload (pc := 58) dX1_add_58 rfl ?_
    refine a_iconst (pc := 60) (v := 1) dX1_add_60 (by decide) ?_
    refine a_iaddN (pc := 61) (a := _) (b := 1) rfl rfl dX1_add_61 ?_
    refine a_iload_n (pc := 62) dX1_add_62 rfl rfl ?_
    refine a_iast (pc := 63)  (by assumption) rfl (by omega) (by decide) dX1_add_63 ?_
    refine a_aload_n (pc := 64) dX1_add_64 rfl rfl ?_
    refine a_getr (pc := 65) fl_X1_11 (by assumption) (by decide) (by rfl) dX1_add_65 ?_
    refine a_iload (pc := 68) dX1_add_68 rfl ?_
    refine a_iconst (pc := 70) (v := 2) dX1_add_70 (by decide) ?_
    refine a_iaddN (pc := 71) (a := _) (b := 2) rfl rfl dX1_add_71 ?_
    refine a_iload_n (pc := 72) dX1_add_72 rfl rfl ?_
    refine a_iast (pc := 73)  (by assumption) rfl (by omega) (by decide) dX1_add_73 ?_
    refine a_aload_n (pc := 74) dX1_add_74 rfl rfl ?_
    refine a_getr (pc := 75) fl_X1_11 (by assumption) (by decide) (by rfl) dX1_add_75 ?_
    refine a_iload (pc := 78) dX1_add_78 rfl ?_
    refine a_iconst (pc := 80) (v := 3) dX1_add_80 (by decide) ?_
    refine a_iaddN (pc := 81) (a := _) (b := 3) rfl rfl dX1_add_81 ?_
    refine a_iload (pc := 82) dX1_add_82 rfl ?_
    refine a_iast (pc := 84)  (by assumption) rfl (by omega) (by decide) dX1_add_84 ?_
    refine a_aload_n (pc := 85) dX1_add_85 rfl rfl ?_
    refine a_dup (pc := 86) dX1_add_86 rfl ?_
    refine a_geti (pc := 87) fl_X1_15 (by assumption) (by decide) (by rfl) dX1_add_87 ?_
    refine a_top (y := nI h) (by simp [up2, upd, upA, hs]) ?_
    refine a_iconst (pc := 90) (v := 1) dX1_add_90 (by decide) ?_
    refine a_iaddN (pc := 91) (a := _) (b := 1) rfl rfl dX1_add_91 ?_
    refine a_puti (pc := 92) fp_X1_15 (by assumption) (by decide) (by rfl) dX1_add_92 ?_
    refine a_vret (pc := 95) rfl dX1_add_95 ?_
    exact rfl
  · exact absurd (hs.symm.trans c_6) (nI_ne (b := 6) (by omega) (by omega) (by omega))

def mem6F (μ : Mem) (o : Nat) (a b c d : Int32) : Mem := memF (upA μ (o + 1) (va_cpy (μ (o + 1)) (μ (o + 1)) 4 0 20)) o 5 a b c d
set_option maxHeartbeats 4000000 in
set_option maxRecDepth 100000 in
theorem c_X1_add6 {μ : Mem} {o : Nat} {a b c d : Int32} (hm : isMem o) (hs : μ o 0 = nI 6) : Con shC mX1_add [.ref o, .int a, .int b, .int c, .int d] μ (fun _ u => u = mem6F μ o a b c d) := by
  obtain ⟨h0, h1⟩ := id hm
  refine Con.ofAW (al0 := [some (.ref o), some (.int a), some (.int b), some (.int c), some (.int d), none]) (by decide) rfl (Nat.le_of_ble_eq_true rfl) rfl ?_
  refine a_aload_n (pc := 0) dX1_add_0 rfl rfl ?_
  refine a_geti (pc := 1) fl_X1_15 (by assumption) (by decide) (by rfl) dX1_add_1 ?_
  refine a_bipush (pc := 4) (v := 6) dX1_add_4 (by decide) ?_
  refine a_icmp_ne (pc := 6) (tgt := 38) dX1_add_6 (by decide) (fun c_6 => ?_) (fun c_6 => ?_)
  · exact absurd hs c_6
  · refine a_aload_n (pc := 9) dX1_add_9 rfl rfl ?_
    refine a_dup (pc := 10) dX1_add_10 rfl ?_
    refine a_geti (pc := 11) fl_X1_15 (by assumption) (by decide) (by rfl) dX1_add_11 ?_
    refine a_top (y := nI 6) hs ?_
    refine a_iconst (pc := 14) (v := 1) dX1_add_14 (by decide) ?_
    refine a_isubN (pc := 15) (a := _) (b := 1) rfl rfl (by decide) dX1_add_15 ?_
    refine a_puti (pc := 16) fp_X1_15 (by assumption) (by decide) (by rfl) dX1_add_16 ?_
    refine a_aload_n (pc := 19) dX1_add_19 rfl rfl ?_
    refine a_getr (pc := 20) fl_X1_11 (by assumption) (by decide) (by rfl) dX1_add_20 ?_
    refine a_iconst (pc := 23) (v := 4) dX1_add_23 (by decide) ?_
    refine a_aload_n (pc := 24) dX1_add_24 rfl rfl ?_
    refine a_getr (pc := 25) fl_X1_11 (by assumption) (by decide) (by rfl) dX1_add_25 ?_
    refine a_iconst (pc := 28) (v := 0) dX1_add_28 (by decide) ?_
    refine a_aload_n (pc := 29) dX1_add_29 rfl rfl ?_
    refine a_geti (pc := 30) fl_X1_15 (by assumption) (by decide) (by rfl) dX1_add_30 ?_
    refine a_top (y := nI 5) (by simp [up2, upd]) ?_
    refine a_iconst (pc := 33) (v := 4) dX1_add_33 (by decide) ?_
    refine a_imulN (pc := 34) (a := _) (b := 4) rfl rfl dX1_add_34 ?_
    refine a_copy (pc := 35) (js := 4) (jd := 0) (jn := 20) (by assumption) (by assumption) rfl rfl rfl (by omega) (by omega) (by decide) (by decide) nl_X1_19 nw_copy1 nw_copy2 nw_copy3 (Nat.le_of_ble_eq_true rfl) (Nat.le_of_ble_eq_true rfl) dX1_add_35 ?_
    refine a_aload_n (pc := 38) dX1_add_38 rfl rfl ?_
    refine a_geti (pc := 39) fl_X1_15 (by assumption) (by decide) (by rfl) dX1_add_39 ?_
    refine a_top (y := nI 5) (by simp [up2, upd, upA]) ?_
    refine a_iconst (pc := 42) (v := 4) dX1_add_42 (by decide) ?_
    refine a_imulN (pc := 43) (a := _) (b := 4) rfl rfl dX1_add_43 ?_
    refine a_istore (pc := 44) (al' := [some (.ref _), some (.int _), some (.int _), some (.int _), some (.int _), some (.int _)]) dX1_add_44 (by decide) rfl rfl ?_
    refine a_aload_n (pc := 46) dX1_add_46 rfl rfl ?_
    refine a_getr (pc := 47) fl_X1_11 (by assumption) (by decide) (by rfl) dX1_add_47 ?_
    refine a_iload (pc := 50) dX1_add_50 rfl ?_
    refine a_iload_n (pc := 52) dX1_add_52 rfl rfl ?_
    refine a_iast (pc := 53)  (by assumption) rfl (by omega) (by decide) dX1_add_53 ?_
    refine a_aload_n (pc := 54) dX1_add_54 rfl rfl ?_
    refine a_getr (pc := 55) fl_X1_11 (by assumption) (by decide) (by rfl) dX1_add_55 ?_
    refine a_iload (pc := 58) dX1_add_58 rfl ?_
    refine a_iconst (pc := 60) (v := 1) dX1_add_60 (by decide) ?_
    refine a_iaddN (pc := 61) (a := _) (b := 1) rfl rfl dX1_add_61 ?_
    refine a_iload_n (pc := 62) dX1_add_62 rfl rfl ?_
    refine a_iast (pc := 63)  (by assumption) rfl (by omega) (by decide) dX1_add_63 ?_
    refine a_aload_n (pc := 64) dX1_add_64 rfl rfl ?_
    refine a_getr (pc := 65) fl_X1_11 (by assumption) (by decide) (by rfl) dX1_add_65 ?_
    refine a_iload (pc := 68) dX1_add_68 rfl ?_
    refine a_iconst (pc := 70) (v := 2) dX1_add_70 (by decide) ?_
    refine a_iaddN (pc := 71) (a := _) (b := 2) rfl rfl dX1_add_71 ?_
    refine a_iload_n (pc := 72) dX1_add_72 rfl rfl ?_
    refine a_iast (pc := 73)  (by assumption) rfl (by omega) (by decide) dX1_add_73 ?_
    refine a_aload_n (pc := 74) dX1_add_74 rfl rfl ?_
    refine a_getr (pc := 75) fl_X1_11 (by assumption) (by decide) (by rfl) dX1_add_75 ?_
    refine a_iload (pc := 78) dX1_add_78 rfl ?_
    refine a_iconst (pc := 80) (v := 3) dX1_add_80 (by decide) ?_
    refine a_iaddN (pc := 81) (a := _) (b := 3) rfl rfl dX1_add_81 ?_
    refine a_iload (pc := 82) dX1_add_82 rfl ?_
    refine a_iast (pc := 84)  (by assumption) rfl (by omega) (by decide) dX1_add_84 ?_
    refine a_aload_n (pc := 85) dX1_add_85 rfl rfl ?_
    refine a_dup (pc := 86) dX1_add_86 rfl ?_
    refine a_geti (pc := 87) fl_X1_15 (by assumption) (by decide) (by rfl) dX1_add_87 ?_
    refine a_top (y := nI 5) (by simp [up2, upd, upA]) ?_
    refine a_iconst (pc := 90) (v := 1) dX1_add_90 (by decide) ?_
    refine a_iaddN (pc := 91) (a := _) (b := 1) rfl rfl dX1_add_91 ?_
    refine a_puti (pc := 92) fp_X1_15 (by assumption) (by decide) (by rfl) dX1_add_92 ?_
    refine a_vret (pc := 95) rfl dX1_add_95 ?_
    funext x y
    by_cases hx : x = o <;> by_cases hy : x = o + 1 <;> simp [mem6F, memF, up2, upA, upd, hx, hy]
    all_goals (split <;> rfl)

def cpMF (μ : Mem) (o q : Nat) : Mem := upA (up2 μ o 0 (μ q 0)) (o + 1) (va_cpy (μ (q + 1)) (μ (o + 1)) 0 0 24)
set_option maxHeartbeats 4000000 in
set_option maxRecDepth 100000 in
theorem c_X1_copyFrom {μ : Mem} {o q : Nat} (h : isMem o) (hq : isMem q) (hd : q + 1 < o ∨ o + 1 < q) : Con shC mX1_copyFrom [.ref o, .ref q] μ (fun _ u => u = cpMF μ o q) := by
  obtain ⟨h0, h1⟩ := id h
  obtain ⟨g0, g1⟩ := id hq
  refine Con.ofAW (al0 := [some (.ref o), some (.ref q)]) (by decide) rfl (Nat.le_of_ble_eq_true rfl) rfl ?_
  refine a_aload_n (pc := 0) dX1_copyFrom_0 rfl rfl ?_
  refine a_aload_n (pc := 1) dX1_copyFrom_1 rfl rfl ?_
  refine a_geti (pc := 2) fl_X1_15 (by assumption) (by decide) (by rfl) dX1_copyFrom_2 ?_
  refine a_puti (pc := 5) fp_X1_15 (by assumption) (by decide) (by rfl) dX1_copyFrom_5 ?_
  refine a_aload_n (pc := 8) dX1_copyFrom_8 rfl rfl ?_
  refine a_getr (pc := 9) fl_X1_11 (by assumption) (by decide) (by rfl) dX1_copyFrom_9 ?_
  refine a_iconst (pc := 12) (v := 0) dX1_copyFrom_12 (by decide) ?_
  refine a_aload_n (pc := 13) dX1_copyFrom_13 rfl rfl ?_
  refine a_getr (pc := 14) fl_X1_11 (by assumption) (by decide) (by rfl) dX1_copyFrom_14 ?_
  refine a_iconst (pc := 17) (v := 0) dX1_copyFrom_17 (by decide) ?_
  refine a_bipush (pc := 18) (v := 24) dX1_copyFrom_18 (by decide) ?_
  refine a_copy (pc := 20) (js := 0) (jd := 0) (jn := 24) (by assumption) (by assumption) rfl rfl rfl (by omega) (by omega) (by decide) (by decide) nl_X1_19 nw_copy1 nw_copy2 nw_copy3 (Nat.le_of_ble_eq_true rfl) (Nat.le_of_ble_eq_true rfl) dX1_copyFrom_20 ?_
  refine a_vret (pc := 23) rfl dX1_copyFrom_23 ?_
  have e1 : q + 1 ≠ o := by omega
  simp [cpMF, up2, upA, e1]
