/-! Signal, LetterRow, Memory -/
def putF (μ : Mem) (o : Nat) (k t l p : Int32) : Mem := up2 (up2 (up2 (up2 μ o 0 k) o 1 t) o 2 l) o 3 p
set_option maxHeartbeats 4000000 in
set_option maxRecDepth 100000 in
theorem c_X4_put {μ : Mem} {o : Nat} {k t l p : Int32} (h : isSig o) : Con shC mX4_put [.ref o, .int k, .int t, .int l, .int p] μ (fun _ u => u = putF μ o k t l p) := by
  have h0 : shC[o]? = _ := h
  refine Con.ofAW (al0 := [some (.ref o), some (.int k), some (.int t), some (.int l), some (.int p)]) (by decide) rfl (Nat.le_of_ble_eq_true rfl) rfl ?_
  refine a_aload_n (pc := 0) dX4_put_0 rfl rfl ?_
  refine a_iload_n (pc := 1) dX4_put_1 rfl rfl ?_
  refine a_puti (pc := 2) fp_X4_9 (by assumption) (by decide) (by rfl) dX4_put_2 ?_
  refine a_aload_n (pc := 5) dX4_put_5 rfl rfl ?_
  refine a_iload_n (pc := 6) dX4_put_6 rfl rfl ?_
  refine a_puti (pc := 7) fp_X4_15 (by assumption) (by decide) (by rfl) dX4_put_7 ?_
  refine a_aload_n (pc := 10) dX4_put_10 rfl rfl ?_
  refine a_iload_n (pc := 11) dX4_put_11 rfl rfl ?_
  refine a_puti (pc := 12) fp_X4_18 (by assumption) (by decide) (by rfl) dX4_put_12 ?_
  refine a_aload_n (pc := 15) dX4_put_15 rfl rfl ?_
  refine a_iload (pc := 16) dX4_put_16 rfl ?_
  refine a_puti (pc := 18) fp_X4_21 (by assumption) (by decide) (by rfl) dX4_put_18 ?_
  refine a_vret (pc := 21) rfl dX4_put_21 ?_
  exact rfl

set_option maxHeartbeats 4000000 in
set_option maxRecDepth 100000 in
theorem c_X4_clear {μ : Mem} {o : Nat} (h : isSig o) : Con shC mX4_clear [.ref o] μ (fun _ u => u = putF μ o 0 0 0 0) := by
  have h0 : shC[o]? = _ := h
  refine Con.ofAW (al0 := [some (.ref o)]) (by decide) rfl (Nat.le_of_ble_eq_true rfl) rfl ?_
  refine a_aload_n (pc := 0) dX4_clear_0 rfl rfl ?_
  refine a_iconst (pc := 1) (v := 0) dX4_clear_1 (by decide) ?_
  refine a_iconst (pc := 2) (v := 0) dX4_clear_2 (by decide) ?_
  refine a_iconst (pc := 3) (v := 0) dX4_clear_3 (by decide) ?_
  refine a_iconst (pc := 4) (v := 0) dX4_clear_4 (by decide) ?_
  refine a_callV4 (pc := 5) ck_X4_24 ⟨(Nat.le_of_ble_eq_true rfl), (Nat.le_of_ble_eq_true rfl)⟩ (by assumption) (by decide) (Nat.le_of_ble_eq_true rfl) dX4_clear_5 rfl (c_X4_put h) ?_
  rintro u rfl
  refine a_vret (pc := 8) rfl dX4_clear_8 ?_
  exact rfl

set_option maxHeartbeats 4000000 in
set_option maxRecDepth 100000 in
theorem c_X4_copyFrom {μ : Mem} {o q : Nat} (h : isSig o) (hq : isSig q) : Con shC mX4_copyFrom [.ref o, .ref q] μ (fun _ u => u = putF μ o (μ q 0) (μ q 1) (μ q 2) (μ q 3)) := by
  have h0 : shC[o]? = _ := h
  have h1 : shC[q]? = _ := hq
  refine Con.ofAW (al0 := [some (.ref o), some (.ref q)]) (by decide) rfl (Nat.le_of_ble_eq_true rfl) rfl ?_
  refine a_aload_n (pc := 0) dX4_copyFrom_0 rfl rfl ?_
  refine a_aload_n (pc := 1) dX4_copyFrom_1 rfl rfl ?_
  refine a_geti (pc := 2) fl_X4_9 (by assumption) (by decide) (by rfl) dX4_copyFrom_2 ?_
  refine a_aload_n (pc := 5) dX4_copyFrom_5 rfl rfl ?_
  refine a_geti (pc := 6) fl_X4_15 (by assumption) (by decide) (by rfl) dX4_copyFrom_6 ?_
  refine a_aload_n (pc := 9) dX4_copyFrom_9 rfl rfl ?_
  refine a_geti (pc := 10) fl_X4_18 (by assumption) (by decide) (by rfl) dX4_copyFrom_10 ?_
  refine a_aload_n (pc := 13) dX4_copyFrom_13 rfl rfl ?_
  refine a_geti (pc := 14) fl_X4_21 (by assumption) (by decide) (by rfl) dX4_copyFrom_14 ?_
  refine a_callV4 (pc := 17) ck_X4_24 ⟨(Nat.le_of_ble_eq_true rfl), (Nat.le_of_ble_eq_true rfl)⟩ (by assumption) (by decide) (Nat.le_of_ble_eq_true rfl) dX4_copyFrom_17 rfl (c_X4_put h) ?_
  rintro u rfl
  refine a_vret (pc := 20) rfl dX4_copyFrom_20 ?_
  exact rfl
