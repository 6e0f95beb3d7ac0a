/-! Net: getFrom, tallySent, listen -/
theorem putF_ne {μ : Mem} {o x : Nat} {a b c d : Int32} (h : x ≠ o) : putF μ o a b c d x = μ x := by simp [putF, up2, h]
theorem tpF_ne {μ : Mem} {o g x : Nat} {s fr : Int32} (h : x ≠ o) (h6 : x ≠ o + 6) : tpF μ o s fr g x = μ x := by
  unfold tpF; split
  · split
    · rw [putF_ne h6]; simp [up2, h]
    · simp [up2, h]
  · rfl
theorem tpF_k {μ : Mem} {o g k : Nat} {s fr : Int32} (h : k < 12) : tpF μ o s fr g o k = μ o k := by
  have e1 : k ≠ 12 := by omega
  have e2 : k ≠ 13 := by omega
  have e3 : k ≠ 14 := by omega
  unfold tpF; split
  · split
    · rw [putF_ne (by omega)]; simp [up2, upd, e1, e2, e3]
    · simp [up2, upd, e1, e2, e3]
  · rfl
theorem takF_ne {μ : Mem} {o g x : Nat} {s fr : Int32} (h : x ≠ o) (h6 : x ≠ o + 6) : (takF μ o s fr g).2 x = μ x := by
  unfold takF; repeat' split
  · exact putF_ne h6
  · exact tpF_ne h h6
  · simp [up2, h]
  · simp [up2, h]
  · rfl
theorem takF_k {μ : Mem} {o g k : Nat} {s fr : Int32} (h : k < 9) : (takF μ o s fr g).2 o k = μ o k := by
  have e1 : k ≠ 9 := by omega
  have e2 : k ≠ 10 := by omega
  unfold takF; repeat' split
  · exact congrFun (putF_ne (by omega)) k
  · exact tpF_k (by omega)
  · simp [up2, upd, e1, e2]
  · simp [up2, upd, e1]
  · rfl
theorem takF_9 {μ : Mem} {o g : Nat} {s fr : Int32} (h : (takF μ o s fr g).2 o 9 ≠ 0) : (takF μ o s fr g).2 o 9 = μ o 9 := by
  revert h; unfold takF; repeat' split
  · intro _; exact congrFun (putF_ne (by omega)) 9
  · intro _; exact tpF_k (by omega)
  · intro h; exact absurd (by simp [up2, upd]) h
  · intro h; exact absurd (by simp [up2, upd]) h
  · intro _; rfl
theorem takF_1 {μ : Mem} {o g : Nat} {s fr : Int32} (h : ¬ (takF μ o s fr g).1 = 0) : μ o 9 = 4 := by
  revert h; unfold takF; repeat' split
  · intro h; exact absurd rfl h
  · intro h; exact absurd rfl h
  · intro h; exact absurd rfl h
  · intro _; rename_i h _; exact h.2
  · intro h; exact absurd rfl h
theorem takF_bool {μ : Mem} {o g : Nat} {s fr : Int32} : (takF μ o s fr g).1 = 0 ∨ (takF μ o s fr g).1 = 1 := by
  unfold takF; repeat' split
  all_goals simp
theorem ovhF_ne {μ : Mem} {o h g x : Nat} {s fr : Int32} (e : x ≠ o) (e4 : x ≠ o + 4) (e5 : x ≠ o + 5) : ovhF μ o h s fr g x = μ x := by
  unfold ovhF; rw [up2_ne e]; exact mAdd_ne e4 (by omega)
theorem ovhF_k {μ : Mem} {o h g k : Nat} {s fr : Int32} (e : k ≠ 4) : ovhF μ o h s fr g o k = μ o k := by
  unfold ovhF; rw [up2_k e, mAdd_ne (by omega) (by omega)]
def gfF (μ : Mem) (n i j h : Nat) : Int32 × Mem := if μ (stA n j + 7) 1 = nI i then takF μ (stA n i) (μ n 6) (nI j) (stA n j + 7) else (0, ovhF μ (stA n i) h (μ n 6) (nI j) (stA n j + 7))
set_option maxHeartbeats 4000000 in
set_option maxRecDepth 100000 in
theorem c_X2_getFrom {μ : Mem} {n i j h : Nat} (hn : isNet n) (hi : i < 6) (hj : j < 6) (hij : i ≠ j) (hs : μ (stA n i + 4) 0 = nI h) (hl : h ≤ 6) : Con shC mX2_getFrom [.ref n, .int (nI i), .int (nI j)] μ (fun r u => r = (gfF μ n i j h).1 ∧ u = (gfF μ n i j h).2) := by
  obtain ⟨hn0, hn1, hn2, hnS⟩ := id hn
  have ws := hnS i hi
  have w0 : shC[(stA n i)]? = _ := ws.1
  have w1 : shC[(stA n i) + 1]? = some (0, 3, [none, some ((stA n i) + 2), some ((stA n i) + 3)]) := ws.2.1.1
  have w2 : shC[(stA n i) + 2]? = some (100, 6, []) := ws.2.1.2.1
  have w3 : shC[(stA n i) + 3]? = some (100, 6, []) := ws.2.1.2.2
  have w4 : shC[(stA n i) + 4]? = some (1, 2, [none, some ((stA n i) + 5)]) := ws.2.2.1.1
  have w5 : shC[(stA n i) + 5]? = some (100, 24, []) := ws.2.2.1.2
  have w6 : shC[(stA n i) + 6]? = some (4, 4, [none, none, none, none]) := ws.2.2.2.1
  have w7 : shC[(stA n i) + 7]? = some (4, 4, [none, none, none, none]) := ws.2.2.2.2
  have vs := hnS j hj
  have v0 : shC[(stA n j)]? = _ := vs.1
  have v1 : shC[(stA n j) + 1]? = some (0, 3, [none, some ((stA n j) + 2), some ((stA n j) + 3)]) := vs.2.1.1
  have v2 : shC[(stA n j) + 2]? = some (100, 6, []) := vs.2.1.2.1
  have v3 : shC[(stA n j) + 3]? = some (100, 6, []) := vs.2.1.2.2
  have v4 : shC[(stA n j) + 4]? = some (1, 2, [none, some ((stA n j) + 5)]) := vs.2.2.1.1
  have v5 : shC[(stA n j) + 5]? = some (100, 24, []) := vs.2.2.1.2
  have v6 : shC[(stA n j) + 6]? = some (4, 4, [none, none, none, none]) := vs.2.2.2.1
  have v7 : shC[(stA n j) + 7]? = some (4, 4, [none, none, none, none]) := vs.2.2.2.2
  have hd : stA n j + 7 < stA n i ∨ stA n i + 7 < stA n j + 7 := by unfold stA; omega
  refine Con.ofAW (al0 := [some (.ref n), some (.int (nI i)), some (.int (nI j)), none]) (by decide) rfl (Nat.le_of_ble_eq_true rfl) rfl ?_
  refine a_aload_n (pc := 0) dX2_getFrom_0 rfl rfl ?_
  refine a_getr (pc := 1) fl_X2_17 (by assumption) (by decide) (by rfl) dX2_getFrom_1 ?_
  refine a_iload_n (pc := 4) dX2_getFrom_4 rfl rfl ?_
  refine a_aald2 (pc := 5)  (by assumption) rfl (by omega) (by decide) (all_at hj) dX2_getFrom_5 ?_
  refine a_getr (pc := 6) fl_X2_144 (by assumption) (by decide) (by rfl) dX2_getFrom_6 ?_
  refine a_astore_n (pc := 9) (al' := [some (.ref _), some (.int _), some (.int _), some (.ref _)]) dX2_getFrom_9 rfl (by decide) rfl rfl ?_
  refine a_aload_n (pc := 10) dX2_getFrom_10 rfl rfl ?_
  refine a_geti (pc := 11) fl_X2_174 (by assumption) (by decide) (by rfl) dX2_getFrom_11 ?_
  refine a_iload_n (pc := 14) dX2_getFrom_14 rfl rfl ?_
  refine a_icmp_ne (pc := 15) (tgt := 34) dX2_getFrom_15 (by decide) (fun c_15 => ?_) (fun c_15 => ?_)
  · refine a_aload_n (pc := 34) dX2_getFrom_34 rfl rfl ?_
    refine a_getr (pc := 35) fl_X2_17 (by assumption) (by decide) (by rfl) dX2_getFrom_35 ?_
    refine a_iload_n (pc := 38) dX2_getFrom_38 rfl rfl ?_
    refine a_aald2 (pc := 39)  (by assumption) rfl (by omega) (by decide) (all_at hi) dX2_getFrom_39 ?_
    refine a_aload_n (pc := 40) dX2_getFrom_40 rfl rfl ?_
    refine a_geti (pc := 41) fl_X2_41 (by assumption) (by decide) (by rfl) dX2_getFrom_41 ?_
    refine a_iload_n (pc := 44) dX2_getFrom_44 rfl rfl ?_
    refine a_aload_n (pc := 45) dX2_getFrom_45 rfl rfl ?_
    refine a_callV3 (pc := 46) ck_X2_181 ⟨(Nat.le_of_ble_eq_true rfl), (Nat.le_of_ble_eq_true rfl)⟩ (by assumption) (by decide) (Nat.le_of_ble_eq_true rfl) dX2_getFrom_46 rfl (c_X5_overhear ws vs.2.2.2.2 hd hs hl) ?_
    rintro u rfl
    refine a_iconst (pc := 49) (v := 0) dX2_getFrom_49 (by decide) ?_
    refine a_zret (pc := 50) rfl (by rfl) dX2_getFrom_50 ?_
    simp_all [gfF]
  · refine a_aload_n (pc := 18) dX2_getFrom_18 rfl rfl ?_
    refine a_getr (pc := 19) fl_X2_17 (by assumption) (by decide) (by rfl) dX2_getFrom_19 ?_
    refine a_iload_n (pc := 22) dX2_getFrom_22 rfl rfl ?_
    refine a_aald2 (pc := 23)  (by assumption) rfl (by omega) (by decide) (all_at hi) dX2_getFrom_23 ?_
    refine a_aload_n (pc := 24) dX2_getFrom_24 rfl rfl ?_
    refine a_geti (pc := 25) fl_X2_41 (by assumption) (by decide) (by rfl) dX2_getFrom_25 ?_
    refine a_iload_n (pc := 28) dX2_getFrom_28 rfl rfl ?_
    refine a_aload_n (pc := 29) dX2_getFrom_29 rfl rfl ?_
    refine a_callI3 (pc := 30) ck_X2_177 ⟨(Nat.le_of_ble_eq_true rfl), (Nat.le_of_ble_eq_true rfl)⟩ (by assumption) (by decide) (Nat.le_of_ble_eq_true rfl) dX2_getFrom_30 rfl (c_X5_take ws vs.2.2.2.2 hd) ?_
    rintro r u ⟨rfl, rfl⟩
    refine a_zret (pc := 33) rfl (by rcases takF_bool (μ := μ) (o := stA n i) (g := stA n j + 7) (s := μ n 6) (fr := nI j) with e | e <;> rw [e] <;> rfl) dX2_getFrom_33 ?_
    simp_all [gfF]

def tsF (μ : Mem) (n x t : Nat) : Mem := up2 (up2 μ (n + 1) (t + 1) (μ (n + 1) (t + 1) + 1)) x 6 (μ x 6 + 1)
set_option maxHeartbeats 4000000 in
set_option maxRecDepth 100000 in
theorem c_X2_tallySent {μ : Mem} {n x t : Nat} (hn : isNet n) (ws : isSt x) (hx : x ≠ n + 1) (ht : μ x 2 = nI t) (hl : t < 9) : Con shC mX2_tallySent [.ref n, .ref x] μ (fun _ u => u = tsF μ n x t) := by
  obtain ⟨hn0, hn1, hn2, hnS⟩ := id hn
  have w0 : shC[x]? = _ := ws.1
  have w1 : shC[x + 1]? = some (0, 3, [none, some (x + 2), some (x + 3)]) := ws.2.1.1
  have w2 : shC[x + 2]? = some (100, 6, []) := ws.2.1.2.1
  have w3 : shC[x + 3]? = some (100, 6, []) := ws.2.1.2.2
  have w4 : shC[x + 4]? = some (1, 2, [none, some (x + 5)]) := ws.2.2.1.1
  have w5 : shC[x + 5]? = some (100, 24, []) := ws.2.2.1.2
  have w6 : shC[x + 6]? = some (4, 4, [none, none, none, none]) := ws.2.2.2.1
  have w7 : shC[x + 7]? = some (4, 4, [none, none, none, none]) := ws.2.2.2.2
  refine Con.ofAW (al0 := [some (.ref n), some (.ref x), none]) (by decide) rfl (Nat.le_of_ble_eq_true rfl) rfl ?_
  refine a_aload_n (pc := 0) dX2_tallySent_0 rfl rfl ?_
  refine a_geti (pc := 1) fl_X2_185 (by assumption) (by decide) (by rfl) dX2_tallySent_1 ?_
  refine a_top (y := nI t) ht ?_
  refine a_iconst (pc := 4) (v := 1) dX2_tallySent_4 (by decide) ?_
  refine a_iaddN (pc := 5) (a := _) (b := 1) rfl rfl dX2_tallySent_5 ?_
  refine a_istore_n (pc := 6) (al' := [some (.ref _), some (.ref _), some (.int _)]) dX2_tallySent_6 rfl (by decide) rfl rfl ?_
  refine a_iload_n (pc := 7) dX2_tallySent_7 rfl rfl ?_
  refine a_bipush (pc := 8) (v := 9) dX2_tallySent_8 (by decide) ?_
  refine a_icmp_gt (pc := 10) (tgt := 23) dX2_tallySent_10 (by decide) (fun c_10 => ?_) (fun c_10 => ?_)
  · exact absurd c_10 (nI_nlt (a := 9) (b := t + 1) (by omega) (by decide))
  · refine a_aload_n (pc := 13) dX2_tallySent_13 rfl rfl ?_
    refine a_getr (pc := 14) fl_X2_9 (by assumption) (by decide) (by rfl) dX2_tallySent_14 ?_
    refine a_iload_n (pc := 17) dX2_tallySent_17 rfl rfl ?_
    refine a_dup2 (pc := 18) dX2_tallySent_18 rfl rfl ?_
    refine a_iald (pc := 19)  (by assumption) rfl (by omega) (by decide) dX2_tallySent_19 ?_
    refine a_iconst (pc := 20) (v := 1) dX2_tallySent_20 (by decide) ?_
    refine a_iadd (pc := 21) dX2_tallySent_21 ?_
    refine a_iast (pc := 22)  (by assumption) rfl (by omega) (by decide) dX2_tallySent_22 ?_
    refine a_aload_n (pc := 23) dX2_tallySent_23 rfl rfl ?_
    refine a_dup (pc := 24) dX2_tallySent_24 rfl ?_
    refine a_geti (pc := 25) fl_X2_188 (by assumption) (by decide) (by rfl) dX2_tallySent_25 ?_
    refine a_iconst (pc := 28) (v := 1) dX2_tallySent_28 (by decide) ?_
    refine a_iadd (pc := 29) dX2_tallySent_29 ?_
    refine a_puti (pc := 30) fp_X2_188 (by assumption) (by decide) (by rfl) dX2_tallySent_30 ?_
    refine a_vret (pc := 33) rfl dX2_tallySent_33 ?_
    simp [tsF, up2_ne hx]

theorem pop_le : ∀ m, m < 64 → (nI (popN m) ≤ 1 ↔ ¬ 1 < popN m) := by decide +kernel
theorem eq0_of : ∀ m, m < 64 → (nI m = 0 ↔ m = 0) := by decide +kernel
def lsnF (μ : Mem) (n i m s t h : Nat) : Mem := if ¬ μ (stA n i + 7) 0 = 0 then awtF μ (stA n i) else if 1 < popN m then (if ¬ μ (stA n i) 9 = 0 then dwF (flF (up2 μ (stA n i) 5 (μ (stA n i) 5 + 1)) (stA n i) s (μ n 1) (μ n 2) (μ n 4)) n i else up2 μ (stA n i) 5 (μ (stA n i) 5 + 1)) else if m = 0 then (if ¬ μ (stA n i) 9 = 0 then dwF (flF μ (stA n i) s (μ n 1) (μ n 2) (μ n 4)) n i else μ) else
    if ¬ (gfF μ n i (lowF (nI m)).toNatClampNeg h).1 = 0 then dwF (clsF (tsF (gfF μ n i (lowF (nI m)).toNatClampNeg h).2 n (stA n i) t) (stA n i) s (μ n 1)) n i
    else if ¬ (gfF μ n i (lowF (nI m)).toNatClampNeg h).2 (stA n i) 9 = 0 then dwF (flF (gfF μ n i (lowF (nI m)).toNatClampNeg h).2 (stA n i) s (μ n 1) (μ n 2) (μ n 4)) n i else (gfF μ n i (lowF (nI m)).toNatClampNeg h).2
theorem low_ok : ∀ m, m < 64 → ∃ j, j < 6 ∧ lowF (nI m) = nI j ∧ (lowF (nI m)).toNatClampNeg = j := by
  intro m hm
  have h1 : ∀ m, m < 64 → (lowF (nI m)).toNatClampNeg < 6 ∧ lowF (nI m) = nI (lowF (nI m)).toNatClampNeg := by decide +kernel
  exact ⟨_, (h1 m hm).1, (h1 m hm).2, rfl⟩
theorem gfF_ne {μ : Mem} {n i j h x : Nat} (e0 : x < stA n i ∨ stA n i + 7 < x) : (gfF μ n i j h).2 x = μ x := by
  unfold gfF; split
  · exact takF_ne (by omega) (by omega)
  · exact ovhF_ne (by omega) (by omega) (by omega)
theorem gfF_row {μ : Mem} {n i j h : Nat} : (gfF μ n i j h).2 (stA n i + 1) = μ (stA n i + 1) := by
  unfold gfF; split
  · exact takF_ne (by omega) (by omega)
  · exact ovhF_ne (by omega) (by omega) (by omega)
theorem gfF_k {μ : Mem} {n i j h k : Nat} (e : k < 9) (e4 : k ≠ 4) : (gfF μ n i j h).2 (stA n i) k = μ (stA n i) k := by
  unfold gfF; split
  · exact takF_k e
  · exact ovhF_k e4
theorem gfF_9 {μ : Mem} {n i j h : Nat} (e : ¬ (gfF μ n i j h).2 (stA n i) 9 = 0) : ¬ μ (stA n i) 9 = 0 := by
  revert e; unfold gfF; split
  · intro e; rw [← takF_9 e]; exact e
  · intro e; exact fun e2 => e ((ovhF_k (by decide)).trans e2)
theorem gfF_1 {μ : Mem} {n i j h : Nat} (e : ¬ (gfF μ n i j h).1 = 0) : ¬ μ (stA n i) 9 = 0 := by
  revert e; unfold gfF; split
  · intro e; rw [takF_1 e]; decide
  · intro e; exact absurd rfl e
set_option maxHeartbeats 4000000 in
set_option maxRecDepth 100000 in
theorem c_X2_listen {μ : Mem} {n i m s t h : Nat} (hn : isNet n) (hi : i < 6) (hm : m < 64) (hh : μ n 7 &&& μ (stA n i) 0 = nI m) (hself : μ (stA n i + 7) 0 = 0 → ((lowF (nI m)).toNatClampNeg ≠ i ∨ m = 0)) (hsz : ¬ μ (stA n i) 9 = 0 → μ (stA n i + 1) 0 = nI (s + 1) ∧ s < 6) (ht : μ (stA n i) 2 = nI t) (htl : t < 9) (hs : μ (stA n i + 4) 0 = nI h) (hl : h ≤ 6) : Con shC mX2_listen [.ref n, .int (nI i)] μ (fun _ u => u = lsnF μ n i m s t h) := by
  obtain ⟨hn0, hn1, hn2, hnS⟩ := id hn
  have ws := hnS i hi
  have w0 : shC[(stA n i)]? = _ := ws.1
  have w1 : shC[(stA n i) + 1]? = some (0, 3, [none, some ((stA n i) + 2), some ((stA n i) + 3)]) := ws.2.1.1
  have w2 : shC[(stA n i) + 2]? = some (100, 6, []) := ws.2.1.2.1
  have w3 : shC[(stA n i) + 3]? = some (100, 6, []) := ws.2.1.2.2
  have w4 : shC[(stA n i) + 4]? = some (1, 2, [none, some ((stA n i) + 5)]) := ws.2.2.1.1
  have w5 : shC[(stA n i) + 5]? = some (100, 24, []) := ws.2.2.1.2
  have w6 : shC[(stA n i) + 6]? = some (4, 4, [none, none, none, none]) := ws.2.2.2.1
  have w7 : shC[(stA n i) + 7]? = some (4, 4, [none, none, none, none]) := ws.2.2.2.2
  obtain ⟨jj, hj6, hjl, hjn⟩ := low_ok m hm
  have hst : n + 1 < stA n i := by unfold stA; omega
  have eg : ∀ j, (gfF μ n i j h).2 n = μ n := fun j => gfF_ne (Or.inl (by omega))
  have ets : ∀ ν : Mem, tsF ν n (stA n i) t n = ν n := fun ν => by unfold tsF; rw [up2_ne (by omega), up2_ne (by omega)]
  have e5 : ∀ v : Int32, up2 μ (stA n i) 5 v (stA n i) 9 = μ (stA n i) 9 := fun v => up2_k (by decide)
  have e6 : ∀ v : Int32, up2 μ (stA n i) 5 v n = μ n := fun v => up2_ne (by omega)
  refine Con.ofAW (al0 := [some (.ref n), some (.int (nI i)), none, none, none]) (by decide) rfl (Nat.le_of_ble_eq_true rfl) rfl ?_
  refine a_aload_n (pc := 0) dX2_listen_0 rfl rfl ?_
  refine a_getr (pc := 1) fl_X2_17 (by assumption) (by decide) (by rfl) dX2_listen_1 ?_
  refine a_iload_n (pc := 4) dX2_listen_4 rfl rfl ?_
  refine a_aald2 (pc := 5)  (by assumption) rfl (by omega) (by decide) (all_at hi) dX2_listen_5 ?_
  refine a_astore_n (pc := 6) (al' := [some (.ref _), some (.int _), some (.ref _), none, none]) dX2_listen_6 rfl (by decide) rfl rfl ?_
  refine a_aload_n (pc := 7) dX2_listen_7 rfl rfl ?_
  refine a_getr (pc := 8) fl_X2_144 (by assumption) (by decide) (by rfl) dX2_listen_8 ?_
  refine a_geti (pc := 11) fl_X2_110 (by assumption) (by decide) (by rfl) dX2_listen_11 ?_
  refine a_if_eq (pc := 14) (tgt := 22) dX2_listen_14 (by decide) (fun c_14 => ?_) (fun c_14 => ?_)
  · refine a_aload_n (pc := 22) dX2_listen_22 rfl rfl ?_
    refine a_geti (pc := 23) fl_X2_44 (by assumption) (by decide) (by rfl) dX2_listen_23 ?_
    refine a_aload_n (pc := 26) dX2_listen_26 rfl rfl ?_
    refine a_geti (pc := 27) fl_X2_60 (by assumption) (by decide) (by rfl) dX2_listen_27 ?_
    refine a_iand (pc := 30) dX2_listen_30 ?_
    refine a_top (y := nI m) hh ?_
    refine a_istore_n (pc := 31) (al' := [some (.ref _), some (.int _), some (.ref _), some (.int _), none]) dX2_listen_31 rfl (by decide) rfl rfl ?_
    refine a_iconst (pc := 32) (v := 0) dX2_listen_32 (by decide) ?_
    refine a_istore (pc := 33) (al' := [some (.ref _), some (.int _), some (.ref _), some (.int _), some (.int _)]) dX2_listen_33 (by decide) rfl rfl ?_
    refine a_iload_n (pc := 35) dX2_listen_35 rfl rfl ?_
    refine a_callS1 (pc := 36) cs_X2_150 ⟨(Nat.le_of_ble_eq_true rfl), (Nat.le_of_ble_eq_true rfl)⟩ (Nat.le_of_ble_eq_true rfl) dX2_listen_36 rfl (c_J6_bitCount hm) ?_
    rintro r u ⟨rfl, rfl⟩
    refine a_iconst (pc := 39) (v := 1) dX2_listen_39 (by decide) ?_
    refine a_icmp_le (pc := 40) (tgt := 56) dX2_listen_40 (by decide) (fun c_40 => ?_) (fun c_40 => ?_)
    · refine a_iload_n (pc := 56) dX2_listen_56 rfl rfl ?_
      refine a_if_eq (pc := 57) (tgt := 72) dX2_listen_57 (by decide) (fun c_57 => ?_) (fun c_57 => ?_)
      · refine a_iload (pc := 72) dX2_listen_72 rfl ?_
        refine a_if_eq (pc := 74) (tgt := 98) dX2_listen_74 (by decide) (fun c_74 => ?_) (fun c_74 => ?_)
        · refine a_aload_n (pc := 98) dX2_listen_98 rfl rfl ?_
          refine a_geti (pc := 99) fl_X2_103 (by assumption) (by decide) (by rfl) dX2_listen_99 ?_
          refine a_if_eq (pc := 102) (tgt := 126) dX2_listen_102 (by decide) (fun c_102 => ?_) (fun c_102 => ?_)
          · refine a_vret (pc := 126) rfl dX2_listen_126 ?_
            simp_all [lsnF, pop_le m hm, eq0_of m hm, -Int32.not_lt, -Int32.not_le, -Nat.not_lt]
          · refine a_aload_n (pc := 105) dX2_listen_105 rfl rfl ?_
            refine a_aload_n (pc := 106) dX2_listen_106 rfl rfl ?_
            refine a_geti (pc := 107) fl_X2_26 (by assumption) (by decide) (by rfl) dX2_listen_107 ?_
            refine a_aload_n (pc := 110) dX2_listen_110 rfl rfl ?_
            refine a_geti (pc := 111) fl_X2_29 (by assumption) (by decide) (by rfl) dX2_listen_111 ?_
            refine a_aload_n (pc := 114) dX2_listen_114 rfl rfl ?_
            refine a_geti (pc := 115) fl_X2_35 (by assumption) (by decide) (by rfl) dX2_listen_115 ?_
            refine a_callV3 (pc := 118) ck_X2_170 ⟨(Nat.le_of_ble_eq_true rfl), (Nat.le_of_ble_eq_true rfl)⟩ (by assumption) (by decide) (Nat.le_of_ble_eq_true rfl) dX2_listen_118 rfl (c_X5_failLetter (s := s) ws (by first | exact (hsz c_102).1 | (rw [gfF_row]; exact (hsz (gfF_9 c_102)).1) | (rw [up2_ne (by omega)]; exact (hsz (by rw [up2_k (by decide)] at c_102; exact c_102)).1)) (by first | exact (hsz c_102).2 | exact (hsz (gfF_9 c_102)).2 | exact (hsz (by rw [up2_k (by decide)] at c_102; exact c_102)).2)) ?_
            rintro u rfl
            refine a_aload_n (pc := 121) dX2_listen_121 rfl rfl ?_
            refine a_iload_n (pc := 122) dX2_listen_122 rfl rfl ?_
            refine a_callV1 (pc := 123) ck_X2_77 ⟨(Nat.le_of_ble_eq_true rfl), (Nat.le_of_ble_eq_true rfl)⟩ (by assumption) (by decide) (Nat.le_of_ble_eq_true rfl) dX2_listen_123 rfl (c_X2_drawWait hn hi) ?_
            rintro u rfl
            refine a_vret (pc := 126) rfl dX2_listen_126 ?_
            simp_all [lsnF, pop_le m hm, eq0_of m hm, -Int32.not_lt, -Int32.not_le, -Nat.not_lt]
        · exact absurd c_74 (by decide)
      · have hm0 : ¬ m = 0 := fun e => c_57 (by rw [e]; rfl)
        have hij : i ≠ (lowF (nI m)).toNatClampNeg := fun e => (hself c_14).elim (fun q => q e.symm) hm0
        refine a_aload_n (pc := 60) dX2_listen_60 rfl rfl ?_
        refine a_iload_n (pc := 61) dX2_listen_61 rfl rfl ?_
        refine a_aload_n (pc := 62) dX2_listen_62 rfl rfl ?_
        refine a_iload_n (pc := 63) dX2_listen_63 rfl rfl ?_
        refine a_callI1 (pc := 64) ck_X2_158 ⟨(Nat.le_of_ble_eq_true rfl), (Nat.le_of_ble_eq_true rfl)⟩ (by assumption) (by decide) (Nat.le_of_ble_eq_true rfl) dX2_listen_64 rfl c_X2_lowestOf ?_
        rintro r u ⟨rfl, rfl⟩
        rw [hjl]
        refine a_callI2 (pc := 67) ck_X2_161 ⟨(Nat.le_of_ble_eq_true rfl), (Nat.le_of_ble_eq_true rfl)⟩ (by assumption) (by decide) (Nat.le_of_ble_eq_true rfl) dX2_listen_67 rfl (c_X2_getFrom hn hi hj6 (hjn ▸ hij) hs hl) ?_
        rintro r u ⟨rfl, rfl⟩
        refine a_istore (pc := 70) (al' := [some (.ref _), some (.int _), some (.ref _), some (.int _), some (.int _)]) dX2_listen_70 (by decide) rfl rfl ?_
        refine a_iload (pc := 72) dX2_listen_72 rfl ?_
        refine a_if_eq (pc := 74) (tgt := 98) dX2_listen_74 (by decide) (fun c_74 => ?_) (fun c_74 => ?_)
        · refine a_aload_n (pc := 98) dX2_listen_98 rfl rfl ?_
          refine a_geti (pc := 99) fl_X2_103 (by assumption) (by decide) (by rfl) dX2_listen_99 ?_
          refine a_if_eq (pc := 102) (tgt := 126) dX2_listen_102 (by decide) (fun c_102 => ?_) (fun c_102 => ?_)
          · refine a_vret (pc := 126) rfl dX2_listen_126 ?_
            simp_all [lsnF, pop_le m hm, eq0_of m hm, -Int32.not_lt, -Int32.not_le, -Nat.not_lt]
          · refine a_aload_n (pc := 105) dX2_listen_105 rfl rfl ?_
            refine a_aload_n (pc := 106) dX2_listen_106 rfl rfl ?_
            refine a_geti (pc := 107) fl_X2_26 (by assumption) (by decide) (by rfl) dX2_listen_107 ?_
            refine a_aload_n (pc := 110) dX2_listen_110 rfl rfl ?_
            refine a_geti (pc := 111) fl_X2_29 (by assumption) (by decide) (by rfl) dX2_listen_111 ?_
            refine a_aload_n (pc := 114) dX2_listen_114 rfl rfl ?_
            refine a_geti (pc := 115) fl_X2_35 (by assumption) (by decide) (by rfl) dX2_listen_115 ?_
            refine a_callV3 (pc := 118) ck_X2_170 ⟨(Nat.le_of_ble_eq_true rfl), (Nat.le_of_ble_eq_true rfl)⟩ (by assumption) (by decide) (Nat.le_of_ble_eq_true rfl) dX2_listen_118 rfl (c_X5_failLetter (s := s) ws (by first | exact (hsz c_102).1 | (rw [gfF_row]; exact (hsz (gfF_9 c_102)).1) | (rw [up2_ne (by omega)]; exact (hsz (by rw [up2_k (by decide)] at c_102; exact c_102)).1)) (by first | exact (hsz c_102).2 | exact (hsz (gfF_9 c_102)).2 | exact (hsz (by rw [up2_k (by decide)] at c_102; exact c_102)).2)) ?_
            rintro u rfl
            refine a_aload_n (pc := 121) dX2_listen_121 rfl rfl ?_
            refine a_iload_n (pc := 122) dX2_listen_122 rfl rfl ?_
            refine a_callV1 (pc := 123) ck_X2_77 ⟨(Nat.le_of_ble_eq_true rfl), (Nat.le_of_ble_eq_true rfl)⟩ (by assumption) (by decide) (Nat.le_of_ble_eq_true rfl) dX2_listen_123 rfl (c_X2_drawWait hn hi) ?_
            rintro u rfl
            refine a_vret (pc := 126) rfl dX2_listen_126 ?_
            simp_all [lsnF, pop_le m hm, eq0_of m hm, -Int32.not_lt, -Int32.not_le, -Nat.not_lt]
        · refine a_aload_n (pc := 77) dX2_listen_77 rfl rfl ?_
          refine a_aload_n (pc := 78) dX2_listen_78 rfl rfl ?_
          refine a_callV1 (pc := 79) ck_X2_164 ⟨(Nat.le_of_ble_eq_true rfl), (Nat.le_of_ble_eq_true rfl)⟩ (by assumption) (by decide) (Nat.le_of_ble_eq_true rfl) dX2_listen_79 rfl (c_X2_tallySent (t := t) hn ws (by omega) (by rw [gfF_k (by decide) (by decide)]; exact ht) htl) ?_
          rintro u rfl
          refine a_aload_n (pc := 82) dX2_listen_82 rfl rfl ?_
          refine a_aload_n (pc := 83) dX2_listen_83 rfl rfl ?_
          refine a_geti (pc := 84) fl_X2_26 (by assumption) (by decide) (by rfl) dX2_listen_84 ?_
          refine a_callV1 (pc := 87) ck_X2_167 ⟨(Nat.le_of_ble_eq_true rfl), (Nat.le_of_ble_eq_true rfl)⟩ (by assumption) (by decide) (Nat.le_of_ble_eq_true rfl) dX2_listen_87 rfl (c_X5_closeLetter (s := s) ws (by simp [tsF, up2]; rw [if_neg (by omega), gfF_row]; exact (hsz (gfF_1 c_74)).1) (hsz (gfF_1 c_74)).2) ?_
          rintro u rfl
          refine a_aload_n (pc := 90) dX2_listen_90 rfl rfl ?_
          refine a_iload_n (pc := 91) dX2_listen_91 rfl rfl ?_
          refine a_callV1 (pc := 92) ck_X2_77 ⟨(Nat.le_of_ble_eq_true rfl), (Nat.le_of_ble_eq_true rfl)⟩ (by assumption) (by decide) (Nat.le_of_ble_eq_true rfl) dX2_listen_92 rfl (c_X2_drawWait hn hi) ?_
          rintro u rfl
          refine a_goto (pc := 95) (tgt := 126) dX2_listen_95 (by decide) ?_
          refine a_vret (pc := 126) rfl dX2_listen_126 ?_
          simp_all [lsnF, pop_le m hm, eq0_of m hm, -Int32.not_lt, -Int32.not_le, -Nat.not_lt]
    · refine a_aload_n (pc := 43) dX2_listen_43 rfl rfl ?_
      refine a_dup (pc := 44) dX2_listen_44 rfl ?_
      refine a_geti (pc := 45) fl_X2_155 (by assumption) (by decide) (by rfl) dX2_listen_45 ?_
      refine a_iconst (pc := 48) (v := 1) dX2_listen_48 (by decide) ?_
      refine a_iadd (pc := 49) dX2_listen_49 ?_
      refine a_puti (pc := 50) fp_X2_155 (by assumption) (by decide) (by rfl) dX2_listen_50 ?_
      refine a_goto (pc := 53) (tgt := 72) dX2_listen_53 (by decide) ?_
      refine a_iload (pc := 72) dX2_listen_72 rfl ?_
      refine a_if_eq (pc := 74) (tgt := 98) dX2_listen_74 (by decide) (fun c_74 => ?_) (fun c_74 => ?_)
      · refine a_aload_n (pc := 98) dX2_listen_98 rfl rfl ?_
        refine a_geti (pc := 99) fl_X2_103 (by assumption) (by decide) (by rfl) dX2_listen_99 ?_
        refine a_if_eq (pc := 102) (tgt := 126) dX2_listen_102 (by decide) (fun c_102 => ?_) (fun c_102 => ?_)
        · refine a_vret (pc := 126) rfl dX2_listen_126 ?_
          simp_all [lsnF, pop_le m hm, eq0_of m hm, -Int32.not_lt, -Int32.not_le, -Nat.not_lt]
        · refine a_aload_n (pc := 105) dX2_listen_105 rfl rfl ?_
          refine a_aload_n (pc := 106) dX2_listen_106 rfl rfl ?_
          refine a_geti (pc := 107) fl_X2_26 (by assumption) (by decide) (by rfl) dX2_listen_107 ?_
          refine a_aload_n (pc := 110) dX2_listen_110 rfl rfl ?_
          refine a_geti (pc := 111) fl_X2_29 (by assumption) (by decide) (by rfl) dX2_listen_111 ?_
          refine a_aload_n (pc := 114) dX2_listen_114 rfl rfl ?_
          refine a_geti (pc := 115) fl_X2_35 (by assumption) (by decide) (by rfl) dX2_listen_115 ?_
          refine a_callV3 (pc := 118) ck_X2_170 ⟨(Nat.le_of_ble_eq_true rfl), (Nat.le_of_ble_eq_true rfl)⟩ (by assumption) (by decide) (Nat.le_of_ble_eq_true rfl) dX2_listen_118 rfl (c_X5_failLetter (s := s) ws (by first | exact (hsz c_102).1 | (rw [gfF_row]; exact (hsz (gfF_9 c_102)).1) | (rw [up2_ne (by omega)]; exact (hsz (by rw [up2_k (by decide)] at c_102; exact c_102)).1)) (by first | exact (hsz c_102).2 | exact (hsz (gfF_9 c_102)).2 | exact (hsz (by rw [up2_k (by decide)] at c_102; exact c_102)).2)) ?_
          rintro u rfl
          refine a_aload_n (pc := 121) dX2_listen_121 rfl rfl ?_
          refine a_iload_n (pc := 122) dX2_listen_122 rfl rfl ?_
          refine a_callV1 (pc := 123) ck_X2_77 ⟨(Nat.le_of_ble_eq_true rfl), (Nat.le_of_ble_eq_true rfl)⟩ (by assumption) (by decide) (Nat.le_of_ble_eq_true rfl) dX2_listen_123 rfl (c_X2_drawWait hn hi) ?_
          rintro u rfl
          refine a_vret (pc := 126) rfl dX2_listen_126 ?_
          simp_all [lsnF, pop_le m hm, eq0_of m hm, -Int32.not_lt, -Int32.not_le, -Nat.not_lt]
      · exact absurd c_74 (by decide)
  · refine a_aload_n (pc := 17) dX2_listen_17 rfl rfl ?_
    refine a_callV0 (pc := 18) ck_X2_147 ⟨(Nat.le_of_ble_eq_true rfl), (Nat.le_of_ble_eq_true rfl)⟩ (by assumption) (by decide) (Nat.le_of_ble_eq_true rfl) dX2_listen_18 rfl (c_X5_awaitAnswer ws) ?_
    rintro u rfl
    refine a_vret (pc := 21) rfl dX2_listen_21 ?_
    simp_all [lsnF, pop_le m hm, eq0_of m hm, -Int32.not_lt, -Int32.not_le, -Nat.not_lt]
