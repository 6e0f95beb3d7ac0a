/-! the class's own constructor -/
theorem GR.takeG {u v y F : Mem} {N l D : Nat} {hm sz : Nat → Nat} (hN : RN u v N l) (hU : RU u v) (hZ : RZ u v) (hK : RK u v) (hH : RH u v hm) (hS : RS u v sz) (h2 : 2 ≤ N) (hC : NCP y 2 (dfF u 53 N) 53) (hy : ∀ x, (x < 2 ∨ 2 + 50 < x) → y x = dfF u 53 N x) (hx : ∀ x, x ≠ 0 → F x = y x) (h6 : F 0 6 = 0) (h7 : F 0 7 = 0) (hT : TXr F (tkF v N)) (hBp : ∀ j, j < 4 → BLn u (pst j)) : GR F (tkF v N) (D + 1) := by
  obtain ⟨hNB, hBL⟩ := take_rel hN hU hZ hK hH hS h2
  have hd : ∀ x, (x < 53 ∨ 103 < x) → dfF u 53 N x = u x := fun x hx => dfF_x N (fun j hj => by have := hN.2.2.1; unfold stA; omega)
  have hCn : NCP F 2 (dfF u 53 N) 53 := ⟨fun k hk => by rw [hx 2 (by omega)]; exact hC.1 k hk, fun k hk => by rw [hx (2 + 1) (by omega)]; exact hC.2.1 k hk, fun i hi => (hC.2.2 i hi).fr (fun x h1 h2 => hx x (by unfold stA at h1; omega))⟩
  refine ⟨N, 0, hNB.mv hCn (fun _ _ _ => rfl) (fun _ _ => rfl) (by omega), by omega, ⟨0, 0, h6, ?_, by omega, h7, by omega, fun j hj => by omega⟩, hT, ?_, ?_, fun j hj => ?_⟩
  · unfold tkF; rw [upA_ne (by omega), up2_at]; rfl
  · exact hBL.cp hCn
  · exact hBL.eq (fun x h1 h2 => by rw [hx x (by omega), hy x (by omega)])
  · exact (hBp j hj).eq (fun x h1 h2 => by unfold pst at h1; rw [hx x (by omega), hy x (by omega), hd x (by omega)])
def txM (k : Nat) : Mem := up2 (upA mz 1 (fun j => if j < k then nI (ftx j) else 0)) 0 1 (nI k)
theorem txM_0 : txM 0 = mz := by
  funext x k
  unfold txM
  simp only [up2_ap, upA_ap]
  by_cases h0 : x = 0
  · subst h0
    by_cases h1 : k = 1
    · simp [h1, mz]; rfl
    · simp [h1, mz]
  · by_cases h1 : x = 1
    · subst h1; simp [mz]
    · simp [h0, h1]
theorem txM_s {k : Nat} : up2 (up2 (txM k) 1 k (nI (ftx k))) 0 1 (nI k + 1) = txM (k + 1) := by
  have e : nI k + 1 = nI (k + 1) := nI_add k 1
  rw [e]
  funext x j
  unfold txM
  simp only [up2_ap, upA_ap]
  by_cases h0 : x = 0
  · subst h0; by_cases h1 : j = 1 <;> simp [h1, up2_ap, upA_ap]
  · by_cases h1 : x = 1
    · subst h1
      simp only [up2_ap, upA_ap]
      by_cases h2 : j = k
      · subst h2; simp
      · by_cases h3 : j < k
        · simp [h2, h3, show j < k + 1 by omega]
        · simp [h2, h3, show ¬ j < k + 1 by omega]
    · simp [h0, h1, up2_ap, upA_ap]
theorem first_take : ∃ U : Mem → Prop, Con shC mX6_takeText [.ref 0] (txM 46) (fun r u => r = 1 ∧ U u) ∧ ∀ u, U u → GR (up2 u 0 1 0) nuF 1 := by
  obtain ⟨w, hC, hF, hR⟩ := first_read (μ := txM 46) (fun k hk => by unfold txM; rw [up2_ne (by omega), upA_at, if_pos hk])
  obtain ⟨N, hm, sz, hN, hU, hZ, hK, hH, hS⟩ := hR
  obtain rfl : N = 4 := (nI_eq (by have := hN.2.2.1; omega) (by omega)).mp (hN.2.1.symm.trans (show nu8 0 10 = nI 4 by decide +kernel))
  have hBL := (take_rel hN hU hZ hK hH hS (by omega)).2
  refine ⟨_, c_X6_takeTextY (l := 46) (by unfold txM; rw [up2_at]) hC rfl (N := 4) (by omega) (by omega) (by rintro u rfl; exact ⟨hN.1, hBL⟩), ?_⟩
  rintro u ⟨w', y, rfl, hCy, hy, rfl⟩
  refine GR.takeG (D := 0) hN hU hZ hK hH hS (by omega) hCy hy (fun x hx => by rw [up2_ne hx, up2_ne hx, up2_ne hx]) (by rw [up2_k (by omega), up2_k (by omega), up2_at]) (by rw [up2_k (by omega), up2_at]) ⟨0, by omega, up2_at, by decide +kernel, fun k hk => by omega⟩ (fun j hj i hi => Or.inl ?_)
  rw [hF _ (by unfold stA pst; omega)]
  unfold txM
  rw [up2_ne (by unfold stA pst; omega), upA_ne (by unfold stA pst; omega)]
  rfl
def tx0 : String := "n4;h0,1;h1,2;h2,3;l0,1,5;l2,1,5;l3,2,1;l1,0,2;"
def XPre (cA : Nat → ClassId) (D : va_G) (h0 x v sz : Nat) (a : Array Value) (U : State) : Prop := BPre cA D [(h0, .inr (6, [.null, .int 0, .null, .null, .null, .null, .int 0, .int 0]))] [.ref h0] sz a U ∧ Gs x v (va_A [(h0, .inr (6, [.null, .int 0, .null, .null, .null, .null, .int 0, .int 0]))] sz) U U.heap ∧ vk_R RX6 36 tx0 x U
theorem gs_m {Y : va_W} {y : Nat × va_E} {x : Nat × va_E} : (Y ++ [y])[Y.length]? = some y ∧ (Y ++ [y]).set Y.length x = Y ++ [x] := by
  constructor
  · simp
  · rw [List.set_append_right _ _ (Nat.le_refl _), Nat.sub_self]; rfl
theorem gs_l {A A' B : va_W} {i : Nat} {y x : Nat × va_E} (h : A[i]? = some y ∧ A.set i x = A') : (A ++ B)[i]? = some y ∧ (A ++ B).set i x = A' ++ B := by
  have hi := (List.getElem?_eq_some_iff.mp h.1).1
  exact ⟨by rw [List.getElem?_append_left hi]; exact h.1, by rw [List.set_append_left _ _ hi, h.2]⟩
def hsA (h t q : Nat) (g1 g2 g3 g4 g5 g6 g7 : Nat → Nat) : Nat → Nat := fun x => if x = 0 then h else if x = 1 then t else if x < 53 then g1 (x - 2) else if x < 104 then g2 (x - 53) else if x < 106 then g3 (x - 104) else if x = 106 then q else if x < 158 then g4 (x - 107) else if x < 209 then g5 (x - 158) else if x < 260 then g6 (x - 209) else g7 (x - 260)
theorem nt_at {n : Nat} {σ g : Nat → Nat} {cA : Nat → ClassId} (h : ∀ k, k < 51 → σ (n + k) = g k) : wof n (netS n) σ cA mz = wo (netS 0) g cA mz := by
  rw [wof_net]; exact wo_congr (N := 51) (by decide) h
theorem netS_len {n : Nat} : (netS n).length = 51 := rfl
theorem wo_hs {σ : Nat → Nat} {cA : Nat → ClassId} : wo shC σ cA mz = [(σ 0, .inr (6, [.ref (σ 1), .int 0, .ref (σ 2), .ref (σ 53), .ref (σ 104), .ref (σ 106), .int 0, .int 0])), (σ 1, .inl (cA 1, 200, .inl (fun _ => 0)))] ++ (wof 2 (netS 2) σ cA mz ++ (wof 53 (netS 53) σ cA mz ++ ([(σ 104, .inr (3, [.ref (σ 1), .ref (σ 53), .ref (σ 105), .int 0, .int 0])), (σ 105, .inl (cA 0, 3, .inl (fun _ => 0))), (σ 106, .inl (cA 3, 4, .inr (.inr (.inr (.inr (fun j => (([some 107, some 158, some 209, some 260] : List (Option Nat)).getD j none).map σ))))))] ++ (wof 107 (netS 107) σ cA mz ++ (wof 158 (netS 158) σ cA mz ++ (wof 209 (netS 209) σ cA mz ++ wof 260 (netS 260) σ cA mz)))))) := by
  unfold shC
  rw [wo_app, wof_app, wof_app, wof_app, wof_app, wof_app, wof_app, wo_R, wof_R [(3, 5, [some 1, some 53, some 105, none, none]), (100, 3, []), (103, 4, [some 107, some 158, some 209, some 260])]]
  simp only [netS_len]
  rfl
set_option maxRecDepth 100000 in
theorem hs_new {h t q : Nat} {g1 g2 g3 g4 g5 g6 g7 : Nat → Nat} {cA : Nat → ClassId} (ha : g3 2 = t) (hb : g3 3 = g2 0) : ((((((((([(h, .inr (6, [.ref t, .int 0, .ref (g1 0), .ref (g2 0), .ref (g3 0), .ref q, .int 0, .int 0]))] ++ [(t, .inl (cA 1, 200, .inl (fun _ => 0)))]) ++ wo (netS 0) g1 cA mz) ++ wo (netS 0) g2 cA mz) ++ wo rdrS g3 cA mz) ++ [(q, .inl (cA 3, 4, .inr (.inr (.inr (.inr (va_up (va_up (va_up (va_up (fun _ => none) 0 (some (g4 0))) 1 (some (g5 0))) 2 (some (g6 0))) 3 (some (g7 0))))))))]) ++ wo (netS 0) g4 cA mz) ++ wo (netS 0) g5 cA mz) ++ wo (netS 0) g6 cA mz) ++ wo (netS 0) g7 cA mz) = wo shC (hsA h t q g1 g2 g3 g4 g5 g6 g7) cA mz := by
  have hs : ∀ {n : Nat} {g : Nat → Nat}, (∀ k, k < 51 → hsA h t q g1 g2 g3 g4 g5 g6 g7 (n + k) = g k) → wof n (netS n) (hsA h t q g1 g2 g3 g4 g5 g6 g7) cA mz = wo (netS 0) g cA mz := fun q => nt_at q
  have hf : (va_up (va_up (va_up (va_up (fun _ => none) 0 (some (g4 0))) 1 (some (g5 0))) 2 (some (g6 0))) 3 (some (g7 0))) = fun j => (([some 107, some 158, some 209, some 260] : List (Option Nat)).getD j none).map (hsA h t q g1 g2 g3 g4 g5 g6 g7) := by
    funext j
    match j with
    | 0 => rfl
    | 1 => rfl
    | 2 => rfl
    | 3 => rfl
    | j + 4 => simp [va_up]
  have hr : wo rdrS g3 cA mz = [(g3 0, .inr (3, [.ref t, .ref (g2 0), .ref (g3 1), .int 0, .int 0])), (g3 1, .inl (cA 0, 3, .inl (fun _ => 0)))] := by
    rw [wo_R, ← ha, ← hb]; rfl
  rw [wo_hs, hs (n := 2) (g := g1) (fun k hk => by unfold hsA; rw [if_neg (by omega), if_neg (by omega), if_pos (by omega), Nat.add_sub_cancel_left]), hs (n := 53) (g := g2) (fun k hk => by unfold hsA; rw [if_neg (by omega), if_neg (by omega), if_neg (by omega), if_pos (by omega), Nat.add_sub_cancel_left]), hs (n := 107) (g := g4) (fun k hk => by unfold hsA; rw [if_neg (by omega), if_neg (by omega), if_neg (by omega), if_neg (by omega), if_neg (by omega), if_neg (by omega), if_pos (by omega), Nat.add_sub_cancel_left]), hs (n := 158) (g := g5) (fun k hk => by unfold hsA; rw [if_neg (by omega), if_neg (by omega), if_neg (by omega), if_neg (by omega), if_neg (by omega), if_neg (by omega), if_neg (by omega), if_pos (by omega), Nat.add_sub_cancel_left]), hs (n := 209) (g := g6) (fun k hk => by unfold hsA; rw [if_neg (by omega), if_neg (by omega), if_neg (by omega), if_neg (by omega), if_neg (by omega), if_neg (by omega), if_neg (by omega), if_neg (by omega), if_pos (by omega), Nat.add_sub_cancel_left]), hs (n := 260) (g := g7) (fun k hk => by unfold hsA; rw [if_neg (by omega), if_neg (by omega), if_neg (by omega), if_neg (by omega), if_neg (by omega), if_neg (by omega), if_neg (by omega), if_neg (by omega), if_neg (by omega), Nat.add_sub_cancel_left])]
  rw [hf, hr]
  simp only [List.append_assoc]
  rfl
set_option maxHeartbeats 4000000 in
set_option maxRecDepth 100000 in
theorem tx_loop {l : Launch} {cA : Nat → ClassId} {D : va_G} {A : Nat → Prop} {p : Program} {e : Env} {s : State} {m : MethodId} {args : Array Value} {below : List Frame} {meth : Method} {c : Code} {Q : State → Prop} {σ : Nat → Nat} {x v : Nat} (X : Bx mX6_init cA D A p s m meth c) (G : Gs x v A s s.heap) (hZ : vk_R RX6 36 tx0 x s)
    (hQ : BW (rmB mX6_init 310 2816) mX6_init l D A p e s m args below meth c Q 310 2816 131 [some (.ref (σ 0)), some (.int (nI 46))] [] (wo shC σ cA (txM 46))) : ∀ d k : Nat, k + d = 46 → BW (rmB mX6_init 310 2816) mX6_init l D A p e s m args below meth c Q 310 2816 90 [some (.ref (σ 0)), some (.int (nI k))] [] (wo shC σ cA (txM k)) := by
  intro d
  induction d with
  | zero =>
    intro k hk
    obtain rfl : k = 46 := by omega
    refine b_iload_n (pc := 90) X dX6_init_90 rfl rfl ?_
    refine b_ldcS (pc := 91) X hZ dX6_init_91 ?_
    refine b_callJV (pc := 93) (R := rmB mX6_init 310 2816) (k := 310) (n := 2816) (st := [.int (nI 46)]) (vs := []) X G jv_X6_38 rfl c_J0_length ⟨Nat.le_of_ble_eq_true rfl, Nat.le_of_ble_eq_true rfl⟩ (Nat.le_of_ble_eq_true rfl) (Nat.le_of_ble_eq_true rfl) (Nat.le_of_ble_eq_true rfl) dX6_init_93 ?_
    exact b_icmp_ge (pc := 96) (tgt := 131) X dX6_init_96 (by decide) (fun _ => hQ) (fun h => absurd (by decide) h)
  | succ d ih =>
    intro k hk
    have hf := fb_all k (by omega)
    refine b_iload_n (pc := 90) X dX6_init_90 rfl rfl ?_
    refine b_ldcS (pc := 91) X hZ dX6_init_91 ?_
    refine b_callJV (pc := 93) (R := rmB mX6_init 310 2816) (k := 310) (n := 2816) (st := [.int (nI k)]) (vs := []) X G jv_X6_38 rfl c_J0_length ⟨Nat.le_of_ble_eq_true rfl, Nat.le_of_ble_eq_true rfl⟩ (Nat.le_of_ble_eq_true rfl) (Nat.le_of_ble_eq_true rfl) (Nat.le_of_ble_eq_true rfl) dX6_init_93 ?_
    refine b_icmp_ge (pc := 96) (tgt := 131) X dX6_init_96 (by decide) (fun h => absurd h (nI_ge (a := k) (b := 46) (by omega) (by omega))) (fun _ => ?_)
    refine b_iload_n (pc := 99) X dX6_init_99 rfl rfl ?_
    refine b_sipush (pc := 100) (v := 200) X dX6_init_100 (by decide) ?_
    refine b_icmp_ge (pc := 103) (tgt := 131) X dX6_init_103 (by decide) (fun h => absurd h (nI_ge (a := k) (b := 200) (by omega) (by omega))) (fun _ => ?_)
    refine b_aload_n (pc := 106) X dX6_init_106 rfl rfl ?_
    refine b_getw (pc := 107) (o := 0) (r := 1) X fl_X6_9 rfl (by decide) rfl dX6_init_107 ?_
    refine b_iload_n (pc := 110) X dX6_init_110 rfl rfl ?_
    refine b_ldcS (pc := 111) X hZ dX6_init_111 ?_
    refine b_iload_n (pc := 113) X dX6_init_113 rfl rfl ?_
    refine b_callJV (pc := 114) (R := rmB mX6_init 310 2816) (k := 310) (n := 2816) (st := [.int (nI k), .ref (σ 1)]) (vs := [.int (nI k)]) X G jv_X6_44 rfl (c_J0_charAt (by omega)) ⟨Nat.le_of_ble_eq_true rfl, Nat.le_of_ble_eq_true rfl⟩ (Nat.le_of_ble_eq_true rfl) (Nat.le_of_ble_eq_true rfl) (Nat.le_of_ble_eq_true rfl) dX6_init_114 ?_
    refine b_castw (pc := 117) (o := 1) X rfl (by omega) (by decide) (chr_nar hf.2.2) dX6_init_117 ?_
    refine b_aload_n (pc := 118) X dX6_init_118 rfl rfl ?_
    refine b_iload_n (pc := 119) X dX6_init_119 rfl rfl ?_
    refine b_iconst (pc := 120) (v := 1) X dX6_init_120 (by decide) ?_
    refine b_iadd (pc := 121) X dX6_init_121 ?_
    refine b_putw (pc := 122) (o := 0) X fp_X6_48 rfl (by decide) rfl dX6_init_122 ?_
    rw [txM_s]
    refine b_iinc (pc := 125) (v := nI (k + 1)) (al' := [some (.ref (σ 0)), some (.int (nI (k + 1)))]) X dX6_init_125 rfl (nI_add k 1) (by decide) rfl rfl ?_
    refine b_goto (pc := 128) (tgt := 90) X dX6_init_128 (by decide) ?_
    exact ih (k + 1) (by omega)
set_option maxHeartbeats 4000000 in
set_option maxRecDepth 100000 in
theorem x6_walk {l : Launch} {cA : Nat → ClassId} {D : va_G} {A : Nat → Prop} {p : Program} {e : Env} {s : State} {m : MethodId} {args : Array Value} {below : List Frame} {meth : Method} {c : Code} {h0 x v : Nat} (X : Bx mX6_init cA D A p s m meth c) (hin : meth.name = "<init>") (G : Gs x v A s s.heap) (hZ : vk_R RX6 36 tx0 x s) : BW (rmB mX6_init 310 2816) mX6_init l D A p e s m args below meth c (BQ cA D A h0 shC (fun _ μ => GR μ nuF 1) 310 2816 below args s) 0 0 0 [some (.ref h0), none] [] [(h0, .inr (6, [.null, .int 0, .null, .null, .null, .null, .int 0, .int 0]))] := by
  refine b_aload_n (pc := 0) X dX6_init_0 rfl rfl ?_
  refine b_objInit (pc := 1) X ol_X6 wo_oi wo_oc dX6_init_1 (Nat.le_of_ble_eq_true rfl) (Nat.le_of_ble_eq_true rfl) ?_
  refine b_aload_n (pc := 4) X dX6_init_4 rfl rfl ?_
  refine b_sipush (pc := 5) (v := 200) X dX6_init_5 (by decide) ?_
  refine b_newc (pc := 8) (R := rmB mX6_init 310 2816) (k := 0) (n := 0) (N := 200) X (by decide) (by decide) (Nat.le_of_ble_eq_true rfl) (Nat.le_of_ble_eq_true rfl) (Nat.le_of_ble_eq_true rfl) dX6_init_8 (fun q1 => ?_)
  refine b_putF (pc := 10) (q := 0) (ws' := ([(h0, .inr (6, [.ref q1, .int 0, .null, .null, .null, .null, .int 0, .int 0]))] ++ [(q1, .inl (cA 1, 200, .inl (fun _ => 0)))])) X hin ff_X6_9 rfl rfl rfl (Nat.le_of_ble_eq_true rfl) dX6_init_10 rfl ?_
  refine b_aload_n (pc := 13) X dX6_init_13 rfl rfl ?_
  refine b_new (pc := 14) (R := rmB mX6_init 310 2816) (k := 1) (n := 200) X fn_X6_13 (Nat.le_of_ble_eq_true rfl) (Nat.le_of_ble_eq_true rfl) dX6_init_14 (fun q2 => ?_)
  refine b_dup (pc := 17) X dX6_init_17 rfl ?_
  refine b_init (pc := 18) (R := rmB mX6_init 310 2816) (k := 2) (n := 210) (st := [.ref q2, .ref h0]) (q := q2) (vs := []) (Y := ([(h0, .inr (6, [.ref q1, .int 0, .null, .null, .null, .null, .int 0, .int 0]))] ++ [(q1, .inl (cA 1, 200, .inl (fun _ => 0)))])) X ci_X6_15 rfl c_X2_init ⟨Nat.le_of_ble_eq_true rfl, Nat.le_of_ble_eq_true rfl⟩ (Nat.le_of_ble_eq_true rfl) (Nat.le_of_ble_eq_true rfl) (Nat.le_of_ble_eq_true rfl) dX6_init_18 ?_
  rintro g3 _ rfl rfl
  refine b_putF (pc := 21) (q := 0) (ws' := (([(h0, .inr (6, [.ref q1, .int 0, .ref (g3 0), .null, .null, .null, .int 0, .int 0]))] ++ [(q1, .inl (cA 1, 200, .inl (fun _ => 0)))]) ++ wo (netS 0) g3 cA mz)) X hin ff_X6_16 rfl rfl rfl (Nat.le_of_ble_eq_true rfl) dX6_init_21 rfl ?_
  refine b_aload_n (pc := 24) X dX6_init_24 rfl rfl ?_
  refine b_new (pc := 25) (R := rmB mX6_init 310 2816) (k := 52) (n := 634) X fn_X6_13 (Nat.le_of_ble_eq_true rfl) (Nat.le_of_ble_eq_true rfl) dX6_init_25 (fun q4 => ?_)
  refine b_dup (pc := 28) X dX6_init_28 rfl ?_
  refine b_init (pc := 29) (R := rmB mX6_init 310 2816) (k := 53) (n := 644) (st := [.ref q4, .ref h0]) (q := q4) (vs := []) (Y := (([(h0, .inr (6, [.ref q1, .int 0, .ref (g3 0), .null, .null, .null, .int 0, .int 0]))] ++ [(q1, .inl (cA 1, 200, .inl (fun _ => 0)))]) ++ wo (netS 0) g3 cA mz)) X ci_X6_15 rfl c_X2_init ⟨Nat.le_of_ble_eq_true rfl, Nat.le_of_ble_eq_true rfl⟩ (Nat.le_of_ble_eq_true rfl) (Nat.le_of_ble_eq_true rfl) (Nat.le_of_ble_eq_true rfl) dX6_init_29 ?_
  rintro g5 _ rfl rfl
  refine b_putF (pc := 32) (q := 0) (ws' := ((([(h0, .inr (6, [.ref q1, .int 0, .ref (g3 0), .ref (g5 0), .null, .null, .int 0, .int 0]))] ++ [(q1, .inl (cA 1, 200, .inl (fun _ => 0)))]) ++ wo (netS 0) g3 cA mz) ++ wo (netS 0) g5 cA mz)) X hin ff_X6_20 rfl rfl rfl (Nat.le_of_ble_eq_true rfl) dX6_init_32 rfl ?_
  refine b_aload_n (pc := 35) X dX6_init_35 rfl rfl ?_
  refine b_new (pc := 36) (R := rmB mX6_init 310 2816) (k := 103) (n := 1068) X fn_X6_23 (Nat.le_of_ble_eq_true rfl) (Nat.le_of_ble_eq_true rfl) dX6_init_36 (fun q6 => ?_)
  refine b_dup (pc := 39) X dX6_init_39 rfl ?_
  refine b_aload_n (pc := 40) X dX6_init_40 rfl rfl ?_
  refine b_get (pc := 41) (own := RX6) (q := 0) X fl_X6_9 rfl rfl dX6_init_41 ?_
  refine b_aload_n (pc := 44) X dX6_init_44 rfl rfl ?_
  refine b_get (pc := 45) (own := RX6) (q := 0) X fl_X6_20 rfl rfl dX6_init_45 ?_
  refine b_init (pc := 48) (R := rmB mX6_init 310 2816) (k := 104) (n := 1073) (st := [.ref q6, .ref h0]) (q := q6) (vs := [.ref q1, .ref (g5 0)]) (Y := ((([(h0, .inr (6, [.ref q1, .int 0, .ref (g3 0), .ref (g5 0), .null, .null, .int 0, .int 0]))] ++ [(q1, .inl (cA 1, 200, .inl (fun _ => 0)))]) ++ wo (netS 0) g3 cA mz) ++ wo (netS 0) g5 cA mz)) X ci_X6_25 rfl c_X3_init ⟨Nat.le_of_ble_eq_true rfl, Nat.le_of_ble_eq_true rfl⟩ (Nat.le_of_ble_eq_true rfl) (Nat.le_of_ble_eq_true rfl) (Nat.le_of_ble_eq_true rfl) dX6_init_48 ?_
  rintro g7 _ rfl ⟨rfl, ha, hb⟩
  refine b_putF (pc := 51) (q := 0) (ws' := (((([(h0, .inr (6, [.ref q1, .int 0, .ref (g3 0), .ref (g5 0), .ref (g7 0), .null, .int 0, .int 0]))] ++ [(q1, .inl (cA 1, 200, .inl (fun _ => 0)))]) ++ wo (netS 0) g3 cA mz) ++ wo (netS 0) g5 cA mz) ++ wo rdrS g7 cA mz)) X hin ff_X6_28 rfl rfl rfl (Nat.le_of_ble_eq_true rfl) dX6_init_51 rfl ?_
  refine b_aload_n (pc := 54) X dX6_init_54 rfl rfl ?_
  refine b_iconst (pc := 55) (v := 4) X dX6_init_55 (by decide) ?_
  refine b_newq (pc := 56) (R := rmB mX6_init 310 2816) (k := 105) (n := 1076) (N := 4) (t := 3) X rfl cl_X6_13 X.2.1.2.2.2.2.2 (by decide) (by decide) (Nat.le_of_ble_eq_true rfl) (Nat.le_of_ble_eq_true rfl) (Nat.le_of_ble_eq_true rfl) dX6_init_56 (fun q8 => ?_)
  refine b_putF (pc := 59) (q := 0) (ws' := ((((([(h0, .inr (6, [.ref q1, .int 0, .ref (g3 0), .ref (g5 0), .ref (g7 0), .ref q8, .int 0, .int 0]))] ++ [(q1, .inl (cA 1, 200, .inl (fun _ => 0)))]) ++ wo (netS 0) g3 cA mz) ++ wo (netS 0) g5 cA mz) ++ wo rdrS g7 cA mz) ++ [(q8, .inl (cA 3, 4, .inr (.inr (.inr (.inr (fun _ => none))))))])) X hin ff_X6_32 rfl rfl rfl (Nat.le_of_ble_eq_true rfl) dX6_init_59 rfl ?_
  refine b_iconst (pc := 62) (v := 0) X dX6_init_62 (by decide) ?_
  refine b_istore_n (pc := 63) (al' := [some (.ref h0), some (.int 0)]) X dX6_init_63 rfl (by decide) rfl rfl ?_
  refine b_iload_n (pc := 64) X dX6_init_64 rfl rfl ?_
  refine b_iconst (pc := 65) (v := 4) X dX6_init_65 (by decide) ?_
  refine b_icmp_ge (pc := 66) (tgt := 88) X dX6_init_66 (by decide) (fun h => absurd h (by decide)) (fun _ => ?_)
  refine b_aload_n (pc := 69) X dX6_init_69 rfl rfl ?_
  refine b_get (pc := 70) (own := RX6) (q := 0) X fl_X6_32 rfl rfl dX6_init_70 ?_
  refine b_iload_n (pc := 73) X dX6_init_73 rfl rfl ?_
  refine b_new (pc := 74) (R := rmB mX6_init 310 2816) (k := 106) (n := 1080) X fn_X6_13 (Nat.le_of_ble_eq_true rfl) (Nat.le_of_ble_eq_true rfl) dX6_init_74 (fun q9 => ?_)
  refine b_dup (pc := 77) X dX6_init_77 rfl ?_
  refine b_init (pc := 78) (R := rmB mX6_init 310 2816) (k := 107) (n := 1090) (st := [.ref q9, .int 0, .ref q8]) (q := q9) (vs := []) (Y := ((((([(h0, .inr (6, [.ref q1, .int 0, .ref (g3 0), .ref (g5 0), .ref (g7 0), .ref q8, .int 0, .int 0]))] ++ [(q1, .inl (cA 1, 200, .inl (fun _ => 0)))]) ++ wo (netS 0) g3 cA mz) ++ wo (netS 0) g5 cA mz) ++ wo rdrS g7 cA mz) ++ [(q8, .inl (cA 3, 4, .inr (.inr (.inr (.inr (fun _ => none))))))])) X ci_X6_15 rfl c_X2_init ⟨Nat.le_of_ble_eq_true rfl, Nat.le_of_ble_eq_true rfl⟩ (Nat.le_of_ble_eq_true rfl) (Nat.le_of_ble_eq_true rfl) (Nat.le_of_ble_eq_true rfl) dX6_init_78 ?_
  rintro g10 _ rfl rfl
  refine b_astq (pc := 81) (q := List.length (((([(h0, .inr (6, [.ref q1, .int 0, .ref (g3 0), .ref (g5 0), .ref (g7 0), .ref q8, .int 0, .int 0]))] ++ [(q1, .inl (cA 1, 200, .inl (fun _ => 0)))]) ++ wo (netS 0) g3 cA mz) ++ wo (netS 0) g5 cA mz) ++ wo rdrS g7 cA mz)) (t := 3) (qk := List.length ((((([(h0, .inr (6, [.ref q1, .int 0, .ref (g3 0), .ref (g5 0), .ref (g7 0), .ref q8, .int 0, .int 0]))] ++ [(q1, .inl (cA 1, 200, .inl (fun _ => 0)))]) ++ wo (netS 0) g3 cA mz) ++ wo (netS 0) g5 cA mz) ++ wo rdrS g7 cA mz) ++ [(q8, .inl (cA 3, 4, .inr (.inr (.inr (.inr (fun _ => none))))))])) (ws' := (((((([(h0, .inr (6, [.ref q1, .int 0, .ref (g3 0), .ref (g5 0), .ref (g7 0), .ref q8, .int 0, .int 0]))] ++ [(q1, .inl (cA 1, 200, .inl (fun _ => 0)))]) ++ wo (netS 0) g3 cA mz) ++ wo (netS 0) g5 cA mz) ++ wo rdrS g7 cA mz) ++ [(q8, .inl (cA 3, 4, .inr (.inr (.inr (.inr (va_up (fun _ => none) 0 (some (g10 0))))))))]) ++ wo (netS 0) g10 cA mz)) X (gs_l (gs_m (x := (0, .inr (0, []))))).1 rfl (wo_len rfl (by decide)) rfl (by unfold vp_in; decide) dX6_init_81 (gs_l gs_m).2 ?_
  refine b_iinc (pc := 82) (v := 1) (al' := [some (.ref h0), some (.int 1)]) X dX6_init_82 rfl (by decide) (by decide) rfl rfl ?_
  refine b_goto (pc := 85) (tgt := 64) X dX6_init_85 (by decide) ?_
  refine b_iload_n (pc := 64) X dX6_init_64 rfl rfl ?_
  refine b_iconst (pc := 65) (v := 4) X dX6_init_65 (by decide) ?_
  refine b_icmp_ge (pc := 66) (tgt := 88) X dX6_init_66 (by decide) (fun h => absurd h (by decide)) (fun _ => ?_)
  refine b_aload_n (pc := 69) X dX6_init_69 rfl rfl ?_
  refine b_get (pc := 70) (own := RX6) (q := 0) X fl_X6_32 rfl rfl dX6_init_70 ?_
  refine b_iload_n (pc := 73) X dX6_init_73 rfl rfl ?_
  refine b_new (pc := 74) (R := rmB mX6_init 310 2816) (k := 157) (n := 1514) X fn_X6_13 (Nat.le_of_ble_eq_true rfl) (Nat.le_of_ble_eq_true rfl) dX6_init_74 (fun q11 => ?_)
  refine b_dup (pc := 77) X dX6_init_77 rfl ?_
  refine b_init (pc := 78) (R := rmB mX6_init 310 2816) (k := 158) (n := 1524) (st := [.ref q11, .int 1, .ref q8]) (q := q11) (vs := []) (Y := (((((([(h0, .inr (6, [.ref q1, .int 0, .ref (g3 0), .ref (g5 0), .ref (g7 0), .ref q8, .int 0, .int 0]))] ++ [(q1, .inl (cA 1, 200, .inl (fun _ => 0)))]) ++ wo (netS 0) g3 cA mz) ++ wo (netS 0) g5 cA mz) ++ wo rdrS g7 cA mz) ++ [(q8, .inl (cA 3, 4, .inr (.inr (.inr (.inr (va_up (fun _ => none) 0 (some (g10 0))))))))]) ++ wo (netS 0) g10 cA mz)) X ci_X6_15 rfl c_X2_init ⟨Nat.le_of_ble_eq_true rfl, Nat.le_of_ble_eq_true rfl⟩ (Nat.le_of_ble_eq_true rfl) (Nat.le_of_ble_eq_true rfl) (Nat.le_of_ble_eq_true rfl) dX6_init_78 ?_
  rintro g12 _ rfl rfl
  refine b_astq (pc := 81) (q := List.length (((([(h0, .inr (6, [.ref q1, .int 0, .ref (g3 0), .ref (g5 0), .ref (g7 0), .ref q8, .int 0, .int 0]))] ++ [(q1, .inl (cA 1, 200, .inl (fun _ => 0)))]) ++ wo (netS 0) g3 cA mz) ++ wo (netS 0) g5 cA mz) ++ wo rdrS g7 cA mz)) (t := 3) (qk := List.length (((((([(h0, .inr (6, [.ref q1, .int 0, .ref (g3 0), .ref (g5 0), .ref (g7 0), .ref q8, .int 0, .int 0]))] ++ [(q1, .inl (cA 1, 200, .inl (fun _ => 0)))]) ++ wo (netS 0) g3 cA mz) ++ wo (netS 0) g5 cA mz) ++ wo rdrS g7 cA mz) ++ [(q8, .inl (cA 3, 4, .inr (.inr (.inr (.inr (va_up (fun _ => none) 0 (some (g10 0))))))))]) ++ wo (netS 0) g10 cA mz)) (ws' := ((((((([(h0, .inr (6, [.ref q1, .int 0, .ref (g3 0), .ref (g5 0), .ref (g7 0), .ref q8, .int 0, .int 0]))] ++ [(q1, .inl (cA 1, 200, .inl (fun _ => 0)))]) ++ wo (netS 0) g3 cA mz) ++ wo (netS 0) g5 cA mz) ++ wo rdrS g7 cA mz) ++ [(q8, .inl (cA 3, 4, .inr (.inr (.inr (.inr (va_up (va_up (fun _ => none) 0 (some (g10 0))) 1 (some (g12 0))))))))]) ++ wo (netS 0) g10 cA mz) ++ wo (netS 0) g12 cA mz)) X (gs_l (gs_l (gs_m (x := (0, .inr (0, [])))))).1 rfl (wo_len rfl (by decide)) rfl (by unfold vp_in; decide) dX6_init_81 (gs_l (gs_l gs_m)).2 ?_
  refine b_iinc (pc := 82) (v := 2) (al' := [some (.ref h0), some (.int 2)]) X dX6_init_82 rfl (by decide) (by decide) rfl rfl ?_
  refine b_goto (pc := 85) (tgt := 64) X dX6_init_85 (by decide) ?_
  refine b_iload_n (pc := 64) X dX6_init_64 rfl rfl ?_
  refine b_iconst (pc := 65) (v := 4) X dX6_init_65 (by decide) ?_
  refine b_icmp_ge (pc := 66) (tgt := 88) X dX6_init_66 (by decide) (fun h => absurd h (by decide)) (fun _ => ?_)
  refine b_aload_n (pc := 69) X dX6_init_69 rfl rfl ?_
  refine b_get (pc := 70) (own := RX6) (q := 0) X fl_X6_32 rfl rfl dX6_init_70 ?_
  refine b_iload_n (pc := 73) X dX6_init_73 rfl rfl ?_
  refine b_new (pc := 74) (R := rmB mX6_init 310 2816) (k := 208) (n := 1948) X fn_X6_13 (Nat.le_of_ble_eq_true rfl) (Nat.le_of_ble_eq_true rfl) dX6_init_74 (fun q13 => ?_)
  refine b_dup (pc := 77) X dX6_init_77 rfl ?_
  refine b_init (pc := 78) (R := rmB mX6_init 310 2816) (k := 209) (n := 1958) (st := [.ref q13, .int 2, .ref q8]) (q := q13) (vs := []) (Y := ((((((([(h0, .inr (6, [.ref q1, .int 0, .ref (g3 0), .ref (g5 0), .ref (g7 0), .ref q8, .int 0, .int 0]))] ++ [(q1, .inl (cA 1, 200, .inl (fun _ => 0)))]) ++ wo (netS 0) g3 cA mz) ++ wo (netS 0) g5 cA mz) ++ wo rdrS g7 cA mz) ++ [(q8, .inl (cA 3, 4, .inr (.inr (.inr (.inr (va_up (va_up (fun _ => none) 0 (some (g10 0))) 1 (some (g12 0))))))))]) ++ wo (netS 0) g10 cA mz) ++ wo (netS 0) g12 cA mz)) X ci_X6_15 rfl c_X2_init ⟨Nat.le_of_ble_eq_true rfl, Nat.le_of_ble_eq_true rfl⟩ (Nat.le_of_ble_eq_true rfl) (Nat.le_of_ble_eq_true rfl) (Nat.le_of_ble_eq_true rfl) dX6_init_78 ?_
  rintro g14 _ rfl rfl
  refine b_astq (pc := 81) (q := List.length (((([(h0, .inr (6, [.ref q1, .int 0, .ref (g3 0), .ref (g5 0), .ref (g7 0), .ref q8, .int 0, .int 0]))] ++ [(q1, .inl (cA 1, 200, .inl (fun _ => 0)))]) ++ wo (netS 0) g3 cA mz) ++ wo (netS 0) g5 cA mz) ++ wo rdrS g7 cA mz)) (t := 3) (qk := List.length ((((((([(h0, .inr (6, [.ref q1, .int 0, .ref (g3 0), .ref (g5 0), .ref (g7 0), .ref q8, .int 0, .int 0]))] ++ [(q1, .inl (cA 1, 200, .inl (fun _ => 0)))]) ++ wo (netS 0) g3 cA mz) ++ wo (netS 0) g5 cA mz) ++ wo rdrS g7 cA mz) ++ [(q8, .inl (cA 3, 4, .inr (.inr (.inr (.inr (va_up (va_up (fun _ => none) 0 (some (g10 0))) 1 (some (g12 0))))))))]) ++ wo (netS 0) g10 cA mz) ++ wo (netS 0) g12 cA mz)) (ws' := (((((((([(h0, .inr (6, [.ref q1, .int 0, .ref (g3 0), .ref (g5 0), .ref (g7 0), .ref q8, .int 0, .int 0]))] ++ [(q1, .inl (cA 1, 200, .inl (fun _ => 0)))]) ++ wo (netS 0) g3 cA mz) ++ wo (netS 0) g5 cA mz) ++ wo rdrS g7 cA mz) ++ [(q8, .inl (cA 3, 4, .inr (.inr (.inr (.inr (va_up (va_up (va_up (fun _ => none) 0 (some (g10 0))) 1 (some (g12 0))) 2 (some (g14 0))))))))]) ++ wo (netS 0) g10 cA mz) ++ wo (netS 0) g12 cA mz) ++ wo (netS 0) g14 cA mz)) X (gs_l (gs_l (gs_l (gs_m (x := (0, .inr (0, []))))))).1 rfl (wo_len rfl (by decide)) rfl (by unfold vp_in; decide) dX6_init_81 (gs_l (gs_l (gs_l gs_m))).2 ?_
  refine b_iinc (pc := 82) (v := 3) (al' := [some (.ref h0), some (.int 3)]) X dX6_init_82 rfl (by decide) (by decide) rfl rfl ?_
  refine b_goto (pc := 85) (tgt := 64) X dX6_init_85 (by decide) ?_
  refine b_iload_n (pc := 64) X dX6_init_64 rfl rfl ?_
  refine b_iconst (pc := 65) (v := 4) X dX6_init_65 (by decide) ?_
  refine b_icmp_ge (pc := 66) (tgt := 88) X dX6_init_66 (by decide) (fun h => absurd h (by decide)) (fun _ => ?_)
  refine b_aload_n (pc := 69) X dX6_init_69 rfl rfl ?_
  refine b_get (pc := 70) (own := RX6) (q := 0) X fl_X6_32 rfl rfl dX6_init_70 ?_
  refine b_iload_n (pc := 73) X dX6_init_73 rfl rfl ?_
  refine b_new (pc := 74) (R := rmB mX6_init 310 2816) (k := 259) (n := 2382) X fn_X6_13 (Nat.le_of_ble_eq_true rfl) (Nat.le_of_ble_eq_true rfl) dX6_init_74 (fun q15 => ?_)
  refine b_dup (pc := 77) X dX6_init_77 rfl ?_
  refine b_init (pc := 78) (R := rmB mX6_init 310 2816) (k := 260) (n := 2392) (st := [.ref q15, .int 3, .ref q8]) (q := q15) (vs := []) (Y := (((((((([(h0, .inr (6, [.ref q1, .int 0, .ref (g3 0), .ref (g5 0), .ref (g7 0), .ref q8, .int 0, .int 0]))] ++ [(q1, .inl (cA 1, 200, .inl (fun _ => 0)))]) ++ wo (netS 0) g3 cA mz) ++ wo (netS 0) g5 cA mz) ++ wo rdrS g7 cA mz) ++ [(q8, .inl (cA 3, 4, .inr (.inr (.inr (.inr (va_up (va_up (va_up (fun _ => none) 0 (some (g10 0))) 1 (some (g12 0))) 2 (some (g14 0))))))))]) ++ wo (netS 0) g10 cA mz) ++ wo (netS 0) g12 cA mz) ++ wo (netS 0) g14 cA mz)) X ci_X6_15 rfl c_X2_init ⟨Nat.le_of_ble_eq_true rfl, Nat.le_of_ble_eq_true rfl⟩ (Nat.le_of_ble_eq_true rfl) (Nat.le_of_ble_eq_true rfl) (Nat.le_of_ble_eq_true rfl) dX6_init_78 ?_
  rintro g16 _ rfl rfl
  refine b_astq (pc := 81) (q := List.length (((([(h0, .inr (6, [.ref q1, .int 0, .ref (g3 0), .ref (g5 0), .ref (g7 0), .ref q8, .int 0, .int 0]))] ++ [(q1, .inl (cA 1, 200, .inl (fun _ => 0)))]) ++ wo (netS 0) g3 cA mz) ++ wo (netS 0) g5 cA mz) ++ wo rdrS g7 cA mz)) (t := 3) (qk := List.length (((((((([(h0, .inr (6, [.ref q1, .int 0, .ref (g3 0), .ref (g5 0), .ref (g7 0), .ref q8, .int 0, .int 0]))] ++ [(q1, .inl (cA 1, 200, .inl (fun _ => 0)))]) ++ wo (netS 0) g3 cA mz) ++ wo (netS 0) g5 cA mz) ++ wo rdrS g7 cA mz) ++ [(q8, .inl (cA 3, 4, .inr (.inr (.inr (.inr (va_up (va_up (va_up (fun _ => none) 0 (some (g10 0))) 1 (some (g12 0))) 2 (some (g14 0))))))))]) ++ wo (netS 0) g10 cA mz) ++ wo (netS 0) g12 cA mz) ++ wo (netS 0) g14 cA mz)) (ws' := ((((((((([(h0, .inr (6, [.ref q1, .int 0, .ref (g3 0), .ref (g5 0), .ref (g7 0), .ref q8, .int 0, .int 0]))] ++ [(q1, .inl (cA 1, 200, .inl (fun _ => 0)))]) ++ wo (netS 0) g3 cA mz) ++ wo (netS 0) g5 cA mz) ++ wo rdrS g7 cA mz) ++ [(q8, .inl (cA 3, 4, .inr (.inr (.inr (.inr (va_up (va_up (va_up (va_up (fun _ => none) 0 (some (g10 0))) 1 (some (g12 0))) 2 (some (g14 0))) 3 (some (g16 0))))))))]) ++ wo (netS 0) g10 cA mz) ++ wo (netS 0) g12 cA mz) ++ wo (netS 0) g14 cA mz) ++ wo (netS 0) g16 cA mz)) X (gs_l (gs_l (gs_l (gs_l (gs_m (x := (0, .inr (0, [])))))))).1 rfl (wo_len rfl (by decide)) rfl (by unfold vp_in; decide) dX6_init_81 (gs_l (gs_l (gs_l (gs_l gs_m)))).2 ?_
  refine b_iinc (pc := 82) (v := 4) (al' := [some (.ref h0), some (.int 4)]) X dX6_init_82 rfl (by decide) (by decide) rfl rfl ?_
  refine b_goto (pc := 85) (tgt := 64) X dX6_init_85 (by decide) ?_
  refine b_iload_n (pc := 64) X dX6_init_64 rfl rfl ?_
  refine b_iconst (pc := 65) (v := 4) X dX6_init_65 (by decide) ?_
  refine b_icmp_ge (pc := 66) (tgt := 88) X dX6_init_66 (by decide) (fun _ => ?_) (fun h => absurd (by decide) h)
  obtain ⟨σ, hσ0, hw⟩ : ∃ σ : Nat → Nat, σ 0 = h0 ∧ ((((((((([(h0, .inr (6, [.ref q1, .int 0, .ref (g3 0), .ref (g5 0), .ref (g7 0), .ref q8, .int 0, .int 0]))] ++ [(q1, .inl (cA 1, 200, .inl (fun _ => 0)))]) ++ wo (netS 0) g3 cA mz) ++ wo (netS 0) g5 cA mz) ++ wo rdrS g7 cA mz) ++ [(q8, .inl (cA 3, 4, .inr (.inr (.inr (.inr (va_up (va_up (va_up (va_up (fun _ => none) 0 (some (g10 0))) 1 (some (g12 0))) 2 (some (g14 0))) 3 (some (g16 0))))))))]) ++ wo (netS 0) g10 cA mz) ++ wo (netS 0) g12 cA mz) ++ wo (netS 0) g14 cA mz) ++ wo (netS 0) g16 cA mz) = wo shC σ cA mz := ⟨hsA h0 q1 q8 g3 g5 g7 g10 g12 g14 g16, rfl, hs_new ha hb⟩
  refine BW.cast ?_ rfl rfl hw.symm
  subst hσ0
  clear hw
  rw [← txM_0]
  refine b_iconst (pc := 88) (v := 0) X dX6_init_88 (by decide) ?_
  refine b_istore_n (pc := 89) (al' := [some (.ref (σ 0)), some (.int (nI 0))]) X dX6_init_89 rfl (by decide) rfl rfl ?_
  refine tx_loop X G hZ ?_ 46 0 (by omega)
  obtain ⟨UU, hU, hGR⟩ := first_take
  refine b_aload_n (pc := 131) X dX6_init_131 rfl rfl ?_
  refine BW.cast (st := (([] : List Value).map (cvl σ)).reverse ++ .ref (σ 0) :: []) ?_ rfl rfl rfl
  refine b_conI1 (pc := 132) (R := rmB mX6_init 310 2816) (k := 310) (n := 2816) (b := 0) (As := []) X ck_X6_52 ⟨Nat.le_of_ble_eq_true rfl, Nat.le_of_ble_eq_true rfl⟩ rfl (by decide) rfl (Nat.le_of_ble_eq_true rfl) (Nat.le_of_ble_eq_true rfl) (Nat.le_of_ble_eq_true rfl) dX6_init_132 rfl hU ?_
  rintro r u ⟨rfl, hu⟩
  refine b_pop (pc := 135) X dX6_init_135 rfl ?_
  refine b_aload_n (pc := 136) X dX6_init_136 rfl rfl ?_
  refine b_iconst (pc := 137) (v := 0) X dX6_init_137 (by decide) ?_
  refine b_putw (pc := 138) (o := 0) X fp_X6_48 rfl (by decide) rfl dX6_init_138 ?_
  exact b_ret (pc := 141) (σ := σ) (μ := up2 u 0 1 0) X rfl rfl (hGR u hu) rfl dX6_init_141
theorem blind_X {cA : Nat → ClassId} {D : va_G} {h0 x v sz : Nat} : FrameBlind (XPre cA D h0 x v sz) := by
  intro a U g mk q
  exact ⟨blind_B a U g mk q.1, q.2.1.same rfl, vk_R.same rfl q.2.2⟩
set_option maxHeartbeats 4000000 in
set_option maxRecDepth 100000 in
theorem c_X6_init (l : Launch) (cA : Nat → ClassId) (D : va_G) (h0 sz x v : Nat) : Met l mX6_init.1 [.code mX6_init.1 mX6_init.2.1 mX6_init.2.2.1 mX6_init.2.2.2.1] (rmB mX6_init 310 2816) (XPre cA D h0 x v sz) (BQv cA D (va_A [(h0, .inr (6, [.null, .int 0, .null, .null, .null, .null, .int 0, .int 0]))] sz) h0 shC (fun _ μ => GR μ nuF 1)) 310 2816 (va_A [(h0, .inr (6, [.null, .int 0, .null, .null, .null, .null, .int 0, .int 0]))] sz) := by
  refine Met.ofW (cc := mX6_init.2.1) (maxL := mX6_init.2.2.1) (ret := mX6_init.2.2.2.1) (by decide) rfl ?_
  intro p e s m args below meth c s₁ BB hml hv
  obtain ⟨⟨rfl, hK, hF, hN, rfl, hP⟩, G, hZ⟩ := hv
  have hown : s.vm.findClass mX6_init.1.cls = some m.cls := findClass_of_methodNamed BB.named
  have hin : meth.name = "<init>" := (name_of_methodNamed BB.named BB.method).1
  have hl := lv_entry [Value.ref h0] (n := 2) (Nat.le_of_ble_eq_true rfl)
  rw [lg_entry_eq]
  have X : Bx mX6_init cA D (va_A [(h0, .inr (6, [.null, .int 0, .null, .null, .null, .null, .int 0, .int 0]))] s.heap.size) p s m meth c := ⟨⟨BB.exec, BB.bytes, hml, BB.returns, BB.notSynchronized, hown, hK, hF⟩, hN, fun q hq => Or.inr hq⟩
  refine x6_walk X hin G hZ s.heap [] _ hP (D_one (A_one.mpr (Or.inl rfl))) va_S.rf ⟨hl.1, hl.2.1, fun q hq => ?_⟩
  obtain ⟨w, h1, h2⟩ := mem_toL.mp hq
  rw [cvl_id] at h2
  refine hl.2.2 q ?_
  have hq1 : q.1 = 0 := by
    rcases hc : q.1 with _ | _ | n
    · rfl
    · rw [hc] at h1; simp at h1
    · rw [hc] at h1; simp at h1
  rw [hq1] at h1
  cases h1
  have : q = (0, Value.ref h0) := by rw [← h2, ← hq1]
  rw [this]
  exact List.mem_cons_self
