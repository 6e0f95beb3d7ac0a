/-! the law from its entry: what the start gives; the two objects made; the loop -/
theorem fn_L_7 : FN RL 7 6 8 [.null, .int 0, .null, .null, .null, .null, .int 0, .int 0] := ⟨RX6, TX6, tyX6, rfl, List.mem_append_right _ (List.mem_of_getElem? (i := 16) (by decide +kernel)), List.mem_append_right _ (List.mem_of_getElem? (i := 17) (by decide +kernel)), List.mem_append_right _ (List.mem_of_getElem? (i := 1) (by decide +kernel)), hw_in6, tyX6_ok, fun j hj => by rcases (show j = 0 ∨ j = 1 ∨ j = 2 ∨ j = 3 ∨ j = 4 ∨ j = 5 ∨ j = 6 ∨ j = 7 by omega) with rfl | rfl | rfl | rfl | rfl | rfl | rfl | rfl <;> rfl⟩
theorem ci_L_9 : CI RL 9 mX6_init 0 := ⟨⟨List.mem_append_right _ (List.mem_of_getElem? (i := 18) (by decide +kernel)), List.mem_append_right _ (List.mem_of_getElem? (i := 1) (by decide +kernel)), List.mem_append_right _ (List.mem_of_getElem? (i := 20) (by decide +kernel)), ⟨by decide +kernel, by decide +kernel⟩, by decide +kernel⟩, List.mem_append_right _ (List.mem_of_getElem? (i := 19) (by decide +kernel)), rfl⟩
theorem fn_L_10 : FN RL 10 7 18 [.int 0, .null, .int 0, .int 0, .int 0, .int 0, .int 0, .null, .null, .int 0, .int 0, .null, .int 0, .int 0, .null, .null, .null, .null] := ⟨RX7, TX7, tyX7, rfl, List.mem_append_right _ (List.mem_of_getElem? (i := 679) (by decide +kernel)), List.mem_append_right _ (List.mem_of_getElem? (i := 680) (by decide +kernel)), List.mem_append_right _ (List.mem_of_getElem? (i := 14) (by decide +kernel)), hw_in7, tyX7_ok, fun j hj => by rcases (show j = 0 ∨ j = 1 ∨ j = 2 ∨ j = 3 ∨ j = 4 ∨ j = 5 ∨ j = 6 ∨ j = 7 ∨ j = 8 ∨ j = 9 ∨ j = 10 ∨ j = 11 ∨ j = 12 ∨ j = 13 ∨ j = 14 ∨ j = 15 ∨ j = 16 ∨ j = 17 by omega) with rfl | rfl | rfl | rfl | rfl | rfl | rfl | rfl | rfl | rfl | rfl | rfl | rfl | rfl | rfl | rfl | rfl | rfl <;> rfl⟩
theorem ci_L_12 : CI RL 12 mX7_init 0 := ⟨⟨List.mem_append_right _ (List.mem_of_getElem? (i := 681) (by decide +kernel)), List.mem_append_right _ (List.mem_of_getElem? (i := 14) (by decide +kernel)), List.mem_append_right _ (List.mem_of_getElem? (i := 683) (by decide +kernel)), ⟨by decide +kernel, by decide +kernel⟩, by decide +kernel⟩, List.mem_append_right _ (List.mem_of_getElem? (i := 682) (by decide +kernel)), rfl⟩
section START
variable {R : Room} {mt : Mt} {l : Launch} {cA : Nat → ClassId} {D : va_G} {A : Nat → Prop} {p : Program} {e : Env} {s : State} {m : MethodId} {args : Array Value} {below : List Frame} {meth : Method} {c : Code} {Q : State → Prop}
variable {k n pc : Nat} {al : List (Option Value)} {st : List Value}
theorem b_initX {idx q x v : Nat} {Y : va_W} (X : Bx mt cA D A p s m meth c) (G : Gs x v A s s.heap) (hZ : vk_R RX6 36 tx0 x s) (hCI : CI mt.1.cls idx mX6_init 0) (hf : FitR R mX6_init) (hst : (st.map Value.category).sum ≤ 8) (hk : k + 310 ≤ R.cells) (hn : n + 2816 ≤ R.slots) (d : decode mt.2.1 pc = .ok (.invokespecial idx, 3)) (kk : ∀ σ μ, σ 0 = q → GR μ nuF 1 → BW R mt l D A p e s m args below meth c Q (k + 310) (n + 2816) (pc + 3) al st (Y ++ wo shC σ cA μ)) : BW R mt l D A p e s m args below meth c Q k n pc al (.ref q :: st) (Y ++ [(q, .inr (6, [.null, .int 0, .null, .null, .null, .null, .int 0, .int 0]))]) := by
  intro H locs ls P E S V
  obtain ⟨⟨h1, h2, h3, h4, h5⟩, h6, h7⟩ := hCI
  have hF := X.1.2.2.2.2.2.2.2
  have hK := X.1.2.2.2.2.2.2.1
  have hP1 : va_P D vwCl [(q, .inr (6, [.null, .int 0, .null, .null, .null, .null, .int 0, .int 0]))] H := fun i x hx => by
    have hi : i < 1 := (List.getElem?_eq_some_iff.mp hx).1
    rw [show i = 0 by omega] at hx
    cases hx
    exact P Y.length _ (by simp)
  have hAq : A q := E.2 Y.length (q, .inr (6, [.null, .int 0, .null, .null, .null, .null, .int 0, .int 0])) (by simp)
  have hAA : ∀ x, va_A [(q, .inr (6, [.null, .int 0, .null, .null, .null, .null, .int 0, .int 0]))] H.size x → A x := fun x hx => by
    rcases A_one.mp hx with rfl | hx
    · exact hAq
    · exact X.2.2 x (Nat.le_trans S.1 hx)
  refine va_callv (a := (Value.ref q :: []).toArray) (va_runI (As := []) (b := q) (rest := st) (Ts := []) (n := 0) (bytes := mX6_init.2.1) (maxL := mX6_init.2.2.1) ⟨X.1.1, X.1.2.1, X.1.2.2.1, X.1.2.2.2.2.2.1, fun w h => by cases h⟩ (c_X6_init l cA D q H.size x v) ⟨⟨rfl, rfl, hf.1, hf.2, fun w hw a' U hW => ?_, List.mem_singleton.mpr rfl, hF.use h3 rfl args, hF.use h2 rfl args, h4, fun sig hs => ?_, hF.use h1 rfl args⟩, h7, hF.use h6 rfl args⟩ ⟨blind_X, fun U hU hW => ⟨⟨rfl, va_K.moved hW.alike hK, hF.warm hW, X.2.1.warm hW, by rw [hU], by rw [hU]; exact hP1⟩, by rw [hU]; exact G.go S.2.1 hW.alike hAA, vk_R.warm hW hZ⟩⟩ rfl rfl V.1 rfl (lv_room hst) d ⟨hk, hn⟩) S (fun x _ h => hAA x h) hAA (fun u t H1 locs1 ht hvm hw hB hz1 hk1 hS => ?_)
  · rw [List.mem_singleton.mp hw]
    exact (hF.warm hW).use h3 rfl a'
  · rw [hs] at h5; exact (Option.some.inj h5).symm
  · obtain ⟨b1, b2⟩ := hB
    rw [ht] at b1
    obtain ⟨j1, j2⟩ := join_new P E hk1 (fun x hx => X.2.2 x (Nat.le_trans S.1 hx)) b1 b2
    exact kk u.1 u.2 hw.1 hw.2 H1 locs1 ls j1 j2 hS V
theorem K_start {b : Nat} (hts : ∀ w ∈ lw_tbl, w.before #[Value.ref b] s = true) : ∃ (D : va_G) (cA : Nat → ClassId), va_K D vwCl (tysA cA) s := by
  obtain ⟨c0, i0, k0⟩ := u_known (C := RX0) (T := TX0) (N := 3) (n := 3) hts (fun w h => (hw_in0 w h).1) (hts (.instantiable RX0 3) (List.mem_append_right _ (List.mem_of_getElem? (i := 38) (by decide +kernel))))
  obtain ⟨c1, i1, k1⟩ := u_known (C := RX1) (T := TX1) (N := 2) (n := 2) hts (fun w h => (hw_in1 w h).1) (hts (.instantiable RX1 2) (List.mem_append_right _ (List.mem_of_getElem? (i := 65) (by decide +kernel))))
  obtain ⟨c2, i2, k2⟩ := u_known (C := RX2) (T := TX2) (N := 10) (n := 10) hts (fun w h => (hw_in2 w h).1) (hts (.instantiable RX2 10) (List.mem_append_right _ (List.mem_of_getElem? (i := 25) (by decide +kernel))))
  obtain ⟨c3, i3, k3⟩ := u_known (C := RX3) (T := TX3) (N := 5) (n := 5) hts (fun w h => (hw_in3 w h).1) (hts (.instantiable RX3 5) (List.mem_append_right _ (List.mem_of_getElem? (i := 236) (by decide +kernel))))
  obtain ⟨c4, i4, k4⟩ := u_known (C := RX4) (T := TX4) (N := 4) (n := 4) hts (fun w h => (hw_in4 w h).1) (hts (.instantiable RX4 4) (List.mem_append_right _ (List.mem_of_getElem? (i := 79) (by decide +kernel))))
  obtain ⟨c5, i5, k5⟩ := u_known (C := RX5) (T := TX5) (N := 19) (n := 19) hts (fun w h => (hw_in5 w h).1) (hts (.instantiable RX5 19) (List.mem_append_right _ (List.mem_of_getElem? (i := 32) (by decide +kernel))))
  obtain ⟨c6, i6, k6⟩ := u_known (C := RX6) (T := TX6) (N := 8) (n := 8) hts (fun w h => (hw_in6 w h).1) (hts (.instantiable RX6 8) (List.mem_append_right _ (List.mem_of_getElem? (i := 17) (by decide +kernel))))
  obtain ⟨c7, i7, k7⟩ := u_known (C := RX7) (T := TX7) (N := 18) (n := 18) hts (fun w h => (hw_in7 w h).1) (hts (.instantiable RX7 18) (List.mem_append_right _ (List.mem_of_getElem? (i := 680) (by decide +kernel))))
  obtain ⟨a0, ka0, co0, f0, g0, e0⟩ := Cond.arrayClass_spec (hts (.arrayClass .int) (List.mem_append_right _ (List.mem_of_getElem? (i := 63) (by decide +kernel))))
  obtain ⟨a1, ka1, co1, f1, g1, e1⟩ := Cond.arrayClass_spec (hts (.arrayClass .char) (List.mem_append_right _ (List.mem_of_getElem? (i := 62) (by decide +kernel))))
  obtain ⟨co2, a2, ka2, h2, -, g2, e2, f2⟩ := Cond.arrayOver_spec (hts (.arrayOver (.object "HeardSlots$Station")) (List.mem_append_right _ (List.mem_of_getElem? (i := 31) (by decide +kernel))))
  obtain ⟨co3, a3, ka3, h3, -, g3, e3, f3⟩ := Cond.arrayOver_spec (hts (.arrayOver (.object "HeardSlots$Net")) (List.mem_append_right _ (List.mem_of_getElem? (i := 257) (by decide +kernel))))
  refine ⟨(fun k => if k = 0 then c0 else if k = 1 then c1 else if k = 2 then c2 else if k = 3 then c3 else if k = 4 then c4 else if k = 5 then c5 else if k = 6 then c6 else c7, fun k => if k = 0 then i0 else if k = 1 then i1 else if k = 2 then i2 else if k = 3 then i3 else if k = 4 then i4 else if k = 5 then i5 else if k = 6 then i6 else i7), fun t => if t = 0 then a0 else if t = 1 then a1 else if t = 2 then a2 else a3, fun k q hq => ?_, fun k q hq => ?_⟩
  · have hk : k < 8 := (List.getElem?_eq_some_iff.mp hq).1
    rcases (show k = 0 ∨ k = 1 ∨ k = 2 ∨ k = 3 ∨ k = 4 ∨ k = 5 ∨ k = 6 ∨ k = 7 by omega) with rfl | rfl | rfl | rfl | rfl | rfl | rfl | rfl
    · obtain rfl := Option.some.inj hq; exact k0
    · obtain rfl := Option.some.inj hq; exact k1
    · obtain rfl := Option.some.inj hq; exact k2
    · obtain rfl := Option.some.inj hq; exact k3
    · obtain rfl := Option.some.inj hq; exact k4
    · obtain rfl := Option.some.inj hq; exact k5
    · obtain rfl := Option.some.inj hq; exact k6
    · obtain rfl := Option.some.inj hq; exact k7
  · have hk : k < 4 := (List.getElem?_eq_some_iff.mp hq).1
    rcases (show k = 0 ∨ k = 1 ∨ k = 2 ∨ k = 3 by omega) with rfl | rfl | rfl | rfl
    · obtain rfl := Option.some.inj hq; exact ⟨fun n z => ⟨(fun k h => by cases h), ka0, g0, co0, e0⟩, f0⟩
    · obtain rfl := Option.some.inj hq; exact ⟨fun n z => ⟨(fun k h => by cases h), ka1, g1, co1, e1⟩, f1⟩
    · obtain rfl := Option.some.inj hq; exact ⟨fun n z => ⟨(fun k h => by cases h), ka2, g2, co2, e2⟩, ka2, co2, g2, e2, h2, f2⟩
    · obtain rfl := Option.some.inj hq; exact ⟨fun n z => ⟨(fun k h => by cases h), ka3, g3, co3, e3⟩, ka3, co3, g3, e3, h3, f3⟩
theorem F_start {b : Nat} (hts : ∀ w ∈ lw_tbl, w.before #[Value.ref b] s = true) : Fx s ∧ Nx s := by
  refine ⟨⟨fun w hw hg => va_tabs (by have h2 := hg; unfold hs_word at h2; rw [Bool.and_eq_true] at h2; exact h2.1) rfl (hts w hw), ?_⟩, ?_, ?_, ?_, ?_, ?_, ?_⟩
  · exact va_Nw.of rfl (hts (.methodLinkNest RX2 96 yX6_drawnNumber "HeardSlots") (List.mem_append_right _ (List.mem_of_getElem? (i := 406) (by decide +kernel))))
  · exact va_Nw.of rfl (hts (.methodLinkNest RX2 21 yX5_init "HeardSlots") (List.mem_append_right _ (List.mem_of_getElem? (i := 33) (by decide +kernel))))
  · exact va_Nw.of rfl (hts (.methodLinkNest RX5 11 yX0_init "HeardSlots") (List.mem_append_right _ (List.mem_of_getElem? (i := 39) (by decide +kernel))))
  · exact va_Nw.of rfl (hts (.methodLinkNest RX5 20 yX1_init "HeardSlots") (List.mem_append_right _ (List.mem_of_getElem? (i := 66) (by decide +kernel))))
  · exact va_Nw.of rfl (hts (.methodLinkNest RX5 27 yX4_init "HeardSlots") (List.mem_append_right _ (List.mem_of_getElem? (i := 80) (by decide +kernel))))
  · exact va_AO.of (hts (.arrayOver (.object "HeardSlots$Station")) (List.mem_append_right _ (List.mem_of_getElem? (i := 31) (by decide +kernel))))
  · exact va_AO.of (hts (.arrayOver (.object "HeardSlots$Net")) (List.mem_append_right _ (List.mem_of_getElem? (i := 257) (by decide +kernel))))
theorem el_at : ∀ j, j < 46 → (flatC (Jvm.Cond.and given_1 narrow_1))[29 + j]? = some (Cond.eq (.elem (Term.field (Term.string "HeardSlots" 36) "java/lang/String" "value" "[B") (.int (Int32.ofNat j))) (.int (fbL.getD j 0))) := by decide +kernel
theorem el_in (j : Nat) (hj : j < 46) : Cond.eq (.elem (Term.field (Term.string "HeardSlots" 36) "java/lang/String" "value" "[B") (.int (Int32.ofNat j))) (.int (fbL.getD j 0)) ∈ flatC (Jvm.Cond.and given_1 narrow_1) := List.mem_of_getElem? (el_at j hj)
theorem G_start {b : Nat} (hts : ∀ w ∈ lw_tbl, w.before #[Value.ref b] s = true) (hgv : (Jvm.Cond.and given_1 narrow_1).before #[Value.ref b] s = true) (hA : ∀ a : Nat, a < s.heap.size → ¬ A a) : ∃ x v, Gs x v A s s.heap ∧ vk_R RX6 36 tx0 x s := by
  have hs := flat_of_before _ hgv
  have w0 : ∀ i, i < 1 → ([46] : List Nat).getD i 0 < 2 ^ 31 := by
    intro i hi
    rw [show i = 0 by omega]; decide
  have w1 : ∀ i, i < 1 → (Cond.exactly (Term.string "HeardSlots" 36) "java/lang/String").before #[Value.ref b] s = true := fun i _ => hs _ (by decide +kernel)
  have w2 : ∀ i, i < 1 → (Cond.eq (.field (Term.string "HeardSlots" 36) "java/lang/String" "coder" "B") (.int 0)).before #[Value.ref b] s = true := fun i _ => hs _ (by decide +kernel)
  have w3 : ∀ i, i < 1 → (Cond.arrayOf (Term.field (Term.string "HeardSlots" 36) "java/lang/String" "value" "[B") .byte).before #[Value.ref b] s = true := fun i _ => hs _ (by decide +kernel)
  have w4 : ∀ i, i < 1 → (Cond.eq (.length (Term.field (Term.string "HeardSlots" 36) "java/lang/String" "value" "[B")) (.int (Int32.ofNat (([46] : List Nat).getD i 0)))).before #[Value.ref b] s = true := by
    intro i hi
    rw [show i = 0 by omega]
    exact hs (Cond.eq (.length (Term.field (Term.string "HeardSlots" 36) "java/lang/String" "value" "[B")) (.int 46)) (by decide +kernel)
  have w5 : ∀ i, i < 1 → ∀ j, j < ([46] : List Nat).getD i 0 → (Cond.eq (.elem (Term.field (Term.string "HeardSlots" 36) "java/lang/String" "value" "[B") (.int (Int32.ofNat j))) (.int ((([fbL] : List (List Int32)).getD i []).getD j 0))).before #[Value.ref b] s = true := by
    intro i hi j hj
    rw [show i = 0 by omega] at hj ⊢
    exact hs _ (el_in j hj)
  obtain ⟨adK, adV, hV, hE⟩ := vk_Sof (N := 1) (tm := fun _ => (Term.string "HeardSlots" 36)) (len := [46]) (byt := [fbL]) (A := A) (args := #[Value.ref b]) (s := s) w0 w1 w2 w3 w4 w5 (fun i j hi hj hne => by omega) hA
  have hV0 : vk_S 1 [46] [fbL] (fun _ => adK 0) (fun _ => adV 0) A s s.heap := by
    refine ⟨fun i hi => ?_, fun i j hi hj _ => by omega⟩
    have := hV.1 i hi
    rw [show i = 0 by omega] at this ⊢
    exact this
  refine ⟨adK 0, adV 0, ⟨hV0, ?_, ?_⟩, ?_⟩
  · exact va_Zof (hts _ (List.mem_append_right _ (List.mem_of_getElem? (i := 268) (by decide +kernel)))) (hts (.initialized "java/lang/String") (List.mem_append_right _ (List.mem_of_getElem? (i := 8) (by decide +kernel)))) (va_eqi (hs (Cond.eq (.static "java/lang/String" "COMPACT_STRINGS" "Z") (.int 1)) (by decide +kernel))) hA
  · exact va_Zqof (hts _ (List.mem_append_right _ (List.mem_of_getElem? (i := 284) (by decide +kernel)))) (hts (.initialized "jdk/internal/util/Preconditions") (List.mem_append_right _ (List.mem_of_getElem? (i := 10) (by decide +kernel)))) (hs (Cond.isRef (.static "jdk/internal/util/Preconditions" "SIOOBE_FORMATTER" "Ljava/util/function/BiFunction;")) (by decide +kernel)) hA
  · exact vk_R.of (hts (.stringRef RX6 36 tx0) (List.mem_append_right _ (List.mem_of_getElem? (i := 258) (by decide +kernel)))) (hE 0 (by omega))
end START
set_option maxHeartbeats 4000000 in
set_option maxRecDepth 100000 in
theorem law_walk {l : Launch} {cA : Nat → ClassId} {D : va_G} {p : Program} {e : Env} {s : State} {m : MethodId} {below : List Frame} {meth : Method} {c : Code} {b L x v : Nat} {xs : Nat → Int32} (X : Bx mL cA D (fun q => s.heap.size ≤ q) p s m meth c) (hX : va_X b L xs s s.heap) (hbl : b < s.heap.size) (hL : L ≤ 2048) (G : Gs x v (fun q => s.heap.size ≤ q) s s.heap) (hZ : vk_R RX6 36 tx0 x s) : BW room_1 mL l D (fun q => s.heap.size ≤ q) p e s m #[Value.ref b] below meth c (lw_Z below #[Value.ref b] s) 0 0 0 [some (.ref b), none, none, none] [] [] := by
  refine b_new (pc := 0) (R := room_1) (k := 0) (n := 0) X fn_L_7 (Nat.le_of_ble_eq_true rfl) (Nat.le_of_ble_eq_true rfl) dL_law_0 (fun q1 => ?_)
  refine b_dup (pc := 3) X dL_law_3 rfl ?_
  refine b_initX (pc := 4) (R := room_1) (k := 1) (n := 8) (st := [.ref q1]) (Y := []) X G hZ ci_L_9 ⟨Nat.le_of_ble_eq_true rfl, Nat.le_of_ble_eq_true rfl⟩ (Nat.le_of_ble_eq_true rfl) (Nat.le_of_ble_eq_true rfl) (Nat.le_of_ble_eq_true rfl) dL_law_4 ?_
  rintro σ μ rfl hG
  refine b_astore_n (pc := 7) (al' := [some (.ref b), some (.ref (σ 0)), none, none]) X dL_law_7 rfl (by decide) rfl rfl ?_
  refine b_new (pc := 8) (R := room_1) (k := 311) (n := 2824) X fn_L_10 (Nat.le_of_ble_eq_true rfl) (Nat.le_of_ble_eq_true rfl) dL_law_8 (fun q2 => ?_)
  refine b_dup (pc := 11) X dL_law_11 rfl ?_
  refine b_init (pc := 12) (R := room_1) (k := 312) (n := 2842) (st := [.ref q2]) (q := q2) (vs := []) (Y := [] ++ wo shC σ cA μ) X ci_L_12 rfl c_X7_init ⟨Nat.le_of_ble_eq_true rfl, Nat.le_of_ble_eq_true rfl⟩ (Nat.le_of_ble_eq_true rfl) (Nat.le_of_ble_eq_true rfl) (Nat.le_of_ble_eq_true rfl) dL_law_12 ?_
  rintro τ ν rfl rfl
  refine b_astore_n (pc := 15) (al' := [some (.ref b), some (.ref (σ 0)), some (.ref (τ 0)), none]) X dL_law_15 rfl (by decide) rfl rfl ?_
  refine b_iconst (pc := 16) (v := 0) X dL_law_16 (by decide) ?_
  refine b_istore_n (pc := 17) (al' := [some (.ref b), some (.ref (σ 0)), some (.ref (τ 0)), some (.int (nI (4 * 0)))]) X dL_law_17 rfl (by decide) rfl rfl ?_
  exact BW.cast (law_loop X hX hbl hL 512 0 (by omega) (by omega) μ nuF hG) rfl rfl (by rw [List.nil_append])
set_option maxHeartbeats 4000000 in
set_option maxRecDepth 100000 in
/-- THE LAW, from its entry -/
theorem whole_start {p : Program} {e : Env} {s : State} {m : MethodId} {below : List Frame} {meth : Method} {c : Code} (l : Launch) (hflags : l.flags = flags0) {b L : Nat} {xs : Nat → Int32} (hL : L ≤ 2048) (C0 : lw_At p s m meth c b L xs) : W p l e room_1 s m #[Value.ref b] below meth c s.heap [] 0 0 (lw_Z below #[Value.ref b] s) (entryFrame m ([Value.ref b] : List Value).toArray 4) := by
  obtain ⟨hx, hb, hr, hml, hown, hts, hX, hbl, hlocks, hgv⟩ := id C0
  obtain ⟨D, cA, hK⟩ := K_start hts
  obtain ⟨hF, hN⟩ := F_start hts
  obtain ⟨x, v, G, hZ⟩ := G_start (A := fun q => s.heap.size ≤ q) hts hgv (fun a ha => by omega)
  have X : Bx mL cA D (fun q => s.heap.size ≤ q) p s m meth c := ⟨⟨hx, hb, hml, hr, hlocks, hown, hK, hF⟩, hN, fun q h => h⟩
  have hl := lv_entry [Value.ref b] (n := 4) (Nat.le_of_ble_eq_true rfl)
  rw [lg_entry_eq]
  refine law_walk X hX hbl hL G hZ s.heap [] _ (fun i x h => by simp at h) ⟨fun i j x y h => by simp at h, fun i x h => by simp at h⟩ va_S.rf ⟨hl.1, hl.2.1, fun q hq => ?_⟩
  obtain ⟨w, h1, h2⟩ := mem_toL.mp hq
  rw [cvl_id] at h2
  refine hl.2.2 q ?_
  have hq1 : q.1 = 0 := by
    rcases hc : q.1 with _ | _ | _ | _ | n
    · rfl
    · rw [hc] at h1; simp at h1
    · rw [hc] at h1; simp at h1
    · rw [hc] at h1; simp at h1
    · rw [hc] at h1; simp at h1
  rw [hq1] at h1
  cases h1
  have : q = (0, Value.ref b) := by rw [← h2, ← hq1]
  rw [this]
  exact List.mem_cons_self
