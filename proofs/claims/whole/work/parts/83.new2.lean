/-! Net, Reader: constructors -/
theorem wo_app {a b : Shp} {σ : Nat → Nat} {cA : Nat → ClassId} {μ : Mem} : wo (a ++ b) σ cA μ = wo a σ cA μ ++ wof a.length b σ cA μ := by
  unfold wo wof
  rw [List.mapIdx_append]
  congr 2
  funext o x
  rw [Nat.add_comm]
theorem wof_app {n : Nat} {a b : Shp} {σ : Nat → Nat} {cA : Nat → ClassId} {μ : Mem} : wof n (a ++ b) σ cA μ = wof n a σ cA μ ++ wof (n + a.length) b σ cA μ := by
  unfold wof
  rw [List.mapIdx_append]
  congr 2
  funext o x
  rw [show n + (o + a.length) = n + a.length + o by omega]
theorem cel_congr {σ σ' : Nat → Nat} {cA : Nat → ClassId} {f : Nat → Int32} {x : Nat × Nat × List (Option Nat)} (h : ∀ r ∈ x.2.2, r.map σ = r.map σ') : cel σ cA f x = cel σ' cA f x := by
  have h1 : x.2.2.mapIdx (sfv σ f) = x.2.2.mapIdx (sfv σ' f) := by
    apply List.ext_getElem?
    intro i
    rw [List.getElem?_mapIdx, List.getElem?_mapIdx]
    cases hx : x.2.2[i]? with
    | none => rfl
    | some r =>
      have := h r (List.mem_of_getElem? hx)
      cases r with
      | none => rfl
      | some a => simp only [Option.map_some, Option.some.injEq] at this ⊢; show Value.ref (σ a) = Value.ref (σ' a); rw [this]
  have h2 : (fun j => (x.2.2.getD j none).map σ) = fun j => (x.2.2.getD j none).map σ' := by
    funext j
    rw [List.getD_eq_getElem?_getD]
    cases hx : x.2.2[j]? with
    | none => rfl
    | some r => exact h r (List.mem_of_getElem? hx)
  unfold cel
  rw [h1, h2]
def refs (N : Nat) (sh : Shp) : Bool := sh.all (fun x => x.2.2.all (fun r => match r with | none => true | some a => decide (a < N))) && decide (sh.length ≤ N)
theorem wo_congr {N : Nat} {sh : Shp} {σ σ' : Nat → Nat} {cA : Nat → ClassId} {μ : Mem} (hs : refs N sh = true) (h : ∀ k, k < N → σ k = σ' k) : wo sh σ cA μ = wo sh σ' cA μ := by
  unfold refs at hs
  rw [Bool.and_eq_true, decide_eq_true_eq] at hs
  unfold wo
  apply List.ext_getElem?
  intro i
  rw [List.getElem?_mapIdx, List.getElem?_mapIdx]
  cases hx : sh[i]? with
  | none => rfl
  | some x =>
    have hi : i < sh.length := (List.getElem?_eq_some_iff.mp hx).1
    have hr := List.all_eq_true.mp hs.1 x (List.mem_of_getElem? hx)
    simp only [Option.map_some]
    rw [h i (by omega), cel_congr (fun r hrm => ?_)]
    have := List.all_eq_true.mp hr r hrm
    cases r with
    | none => rfl
    | some a => simp only [decide_eq_true_eq] at this; show some (σ a) = some (σ' a); rw [h a this]
def shO (n : Nat) (x : Nat × Nat × List (Option Nat)) : Nat × Nat × List (Option Nat) := (x.1, x.2.1, x.2.2.map (Option.map (n + ·)))
theorem cel_shift {n : Nat} {σ : Nat → Nat} {cA : Nat → ClassId} {f : Nat → Int32} {x : Nat × Nat × List (Option Nat)} : cel σ cA f (shO n x) = cel (fun k => σ (n + k)) cA f x := by
  have h1 : (x.2.2.map (Option.map (n + ·))).mapIdx (sfv σ f) = x.2.2.mapIdx (sfv (fun k => σ (n + k)) f) := by
    apply List.ext_getElem?
    intro i
    rw [List.getElem?_mapIdx, List.getElem?_mapIdx, List.getElem?_map]
    cases x.2.2[i]? with
    | none => rfl
    | some r => cases r <;> rfl
  have h2 : (fun j => ((x.2.2.map (Option.map (n + ·))).getD j none).map σ) = fun j => (x.2.2.getD j none).map (fun k => σ (n + k)) := by
    funext j
    rw [List.getD_eq_getElem?_getD, List.getD_eq_getElem?_getD, List.getElem?_map]
    cases x.2.2[j]? with
    | none => rfl
    | some r => cases r <;> rfl
  unfold cel shO
  simp only
  rw [h1, h2]
theorem wof_shift {n : Nat} {sh : Shp} {σ : Nat → Nat} {cA : Nat → ClassId} : wof n (sh.map (shO n)) σ cA mz = wo sh (fun k => σ (n + k)) cA mz := by
  unfold wof wo
  apply List.ext_getElem?
  intro i
  rw [List.getElem?_mapIdx, List.getElem?_mapIdx, List.getElem?_map]
  cases sh[i]? with
  | none => rfl
  | some x => simp only [Option.map_some]; rw [cel_shift]; rfl
theorem wof_st {n : Nat} {σ : Nat → Nat} {cA : Nat → ClassId} : wof n (stS n) σ cA mz = wo (stS 0) (fun k => σ (n + k)) cA mz := by
  rw [show stS n = (stS 0).map (shO n) by simp [stS, shO]]; exact wof_shift
theorem wof_net {n : Nat} {σ : Nat → Nat} {cA : Nat → ClassId} : wof n (netS n) σ cA mz = wo (netS 0) (fun k => σ (n + k)) cA mz := by
  rw [show netS n = (netS 0).map (shO n) by simp [netS, stS, shO, Nat.add_assoc]]; exact wof_shift
def ntA (h a b : Nat) (g0 g1 g2 g3 g4 g5 : Nat → Nat) : Nat → Nat := fun x => if x = 0 then h else if x = 1 then a else if x = 2 then b else if x < 11 then g0 (x - 3) else if x < 19 then g1 (x - 11) else if x < 27 then g2 (x - 19) else if x < 35 then g3 (x - 27) else if x < 43 then g4 (x - 35) else g5 (x - 43)
theorem st_at {n : Nat} {σ g : Nat → Nat} {cA : Nat → ClassId} (h : ∀ k, k < 8 → σ (n + k) = g k) : wof n (stS n) σ cA mz = wo (stS 0) g cA mz := by
  rw [wof_st]; exact wo_congr (N := 8) (by decide) h
theorem wo_net {σ : Nat → Nat} {cA : Nat → ClassId} : wo (netS 0) σ cA mz = [(σ 0, .inr (2, [.int 0, .int 0, .int 0, .int 0, .int 0, .int 0, .int 0, .int 0, .ref (σ 1), .ref (σ 2)])), (σ 1, .inl (cA 0, 10, .inl (fun _ => 0))), (σ 2, .inl (cA 2, 6, .inr (.inr (.inr (.inr (fun j => (([some 3, some 11, some 19, some 27, some 35, some 43] : List (Option Nat)).getD j none).map σ))))))] ++ (wof 3 (stS 3) σ cA mz ++ (wof 11 (stS 11) σ cA mz ++ (wof 19 (stS 19) σ cA mz ++ (wof 27 (stS 27) σ cA mz ++ (wof 35 (stS 35) σ cA mz ++ wof 43 (stS 43) σ cA mz))))) := by
  unfold netS
  rw [wo_app, wof_app, wof_app, wof_app, wof_app, wof_app]
  rfl
theorem net_new {h a b : Nat} {g0 g1 g2 g3 g4 g5 : Nat → Nat} {cA : Nat → ClassId} : (((((((([(h, .inr (2, [.int 0, .int 0, .int 0, .int 0, .int 0, .int 0, .int 0, .int 0, .ref a, .ref b]))] ++ [(a, .inl (cA 0, 10, .inl (fun _ => 0)))]) ++ [(b, .inl (cA 2, 6, .inr (.inr (.inr (.inr (va_up (va_up (va_up (va_up (va_up (va_up (fun _ => none) 0 (some (g0 0))) 1 (some (g1 0))) 2 (some (g2 0))) 3 (some (g3 0))) 4 (some (g4 0))) 5 (some (g5 0))))))))]) ++ wo (stS 0) g0 cA mz) ++ wo (stS 0) g1 cA mz) ++ wo (stS 0) g2 cA mz) ++ wo (stS 0) g3 cA mz) ++ wo (stS 0) g4 cA mz) ++ wo (stS 0) g5 cA mz) = wo (netS 0) (ntA h a b g0 g1 g2 g3 g4 g5) cA mz := by
  have hs : ∀ {n : Nat} {g : Nat → Nat}, (∀ k, k < 8 → ntA h a b g0 g1 g2 g3 g4 g5 (n + k) = g k) → wof n (stS n) (ntA h a b g0 g1 g2 g3 g4 g5) cA mz = wo (stS 0) g cA mz := fun q => st_at q
  have hf : (va_up (va_up (va_up (va_up (va_up (va_up (fun _ => none) 0 (some (g0 0))) 1 (some (g1 0))) 2 (some (g2 0))) 3 (some (g3 0))) 4 (some (g4 0))) 5 (some (g5 0))) = fun j => (([some 3, some 11, some 19, some 27, some 35, some 43] : List (Option Nat)).getD j none).map (ntA h a b g0 g1 g2 g3 g4 g5) := by
    funext j
    match j with
    | 0 => rfl
    | 1 => rfl
    | 2 => rfl
    | 3 => rfl
    | 4 => rfl
    | 5 => rfl
    | j + 6 => simp [va_up]
  rw [wo_net, hs (n := 3) (g := g0) (fun k hk => by unfold ntA; rw [if_neg (by omega), if_neg (by omega), if_neg (by omega), if_pos (by omega)]; congr 1; omega),
    hs (n := 11) (g := g1) (fun k hk => by unfold ntA; rw [if_neg (by omega), if_neg (by omega), if_neg (by omega), if_neg (by omega), if_pos (by omega)]; congr 1; omega),
    hs (n := 19) (g := g2) (fun k hk => by unfold ntA; rw [if_neg (by omega), if_neg (by omega), if_neg (by omega), if_neg (by omega), if_neg (by omega), if_pos (by omega)]; congr 1; omega),
    hs (n := 27) (g := g3) (fun k hk => by unfold ntA; rw [if_neg (by omega), if_neg (by omega), if_neg (by omega), if_neg (by omega), if_neg (by omega), if_neg (by omega), if_pos (by omega)]; congr 1; omega),
    hs (n := 35) (g := g4) (fun k hk => by unfold ntA; rw [if_neg (by omega), if_neg (by omega), if_neg (by omega), if_neg (by omega), if_neg (by omega), if_neg (by omega), if_neg (by omega), if_pos (by omega)]; congr 1; omega),
    hs (n := 43) (g := g5) (fun k hk => by unfold ntA; rw [if_neg (by omega), if_neg (by omega), if_neg (by omega), if_neg (by omega), if_neg (by omega), if_neg (by omega), if_neg (by omega), if_neg (by omega)]; congr 1; omega)]
  rw [hf]
  simp only [List.append_assoc]
  rfl
set_option maxHeartbeats 4000000 in
set_option maxRecDepth 100000 in
theorem c_X2_init : BCon mX2_init 50 424 2 [.int 0, .int 0, .int 0, .int 0, .int 0, .int 0, .int 0, .int 0, .null, .null] [] (netS 0) exZ := by
  refine BCon.ofBW (by decide) rfl rfl (Nat.le_of_ble_eq_true rfl) ?_
  intro l cA D A p e s m args below meth c h0 X hin
  refine b_aload_n (pc := 0) X dX2_init_0 rfl rfl ?_
  refine b_objInit (pc := 1) X ol_X2 wo_oi wo_oc dX2_init_1 (Nat.le_of_ble_eq_true rfl) (Nat.le_of_ble_eq_true rfl) ?_
  refine b_aload_n (pc := 4) X dX2_init_4 rfl rfl ?_
  refine b_bipush (pc := 5) (v := 10) X dX2_init_5 (by decide) ?_
  refine b_newi (pc := 7) (R := rmB mX2_init 50 424) (k := 0) (n := 0) (N := 10) X (by decide) (by decide) (Nat.le_of_ble_eq_true rfl) (Nat.le_of_ble_eq_true rfl) (Nat.le_of_ble_eq_true rfl) dX2_init_7 (fun q1 => ?_)
  refine b_putF (pc := 9) (q := 0) (ws' := ([(h0, .inr (2, [.int 0, .int 0, .int 0, .int 0, .int 0, .int 0, .int 0, .int 0, .ref q1, .null]))] ++ [(q1, .inl (cA 0, 10, .inl (fun _ => 0)))])) X hin ff_X2_9 rfl rfl rfl (Nat.le_of_ble_eq_true rfl) dX2_init_9 rfl ?_
  refine b_aload_n (pc := 12) X dX2_init_12 rfl rfl ?_
  refine b_bipush (pc := 13) (v := 6) X dX2_init_13 (by decide) ?_
  refine b_newq (pc := 15) (R := rmB mX2_init 50 424) (k := 1) (n := 10) (N := 6) (t := 2) X rfl cl_X2_15 X.2.1.2.2.2.2.1 (by decide) (by decide) (Nat.le_of_ble_eq_true rfl) (Nat.le_of_ble_eq_true rfl) (Nat.le_of_ble_eq_true rfl) dX2_init_15 (fun q2 => ?_)
  refine b_putF (pc := 18) (q := 0) (ws' := (([(h0, .inr (2, [.int 0, .int 0, .int 0, .int 0, .int 0, .int 0, .int 0, .int 0, .ref q1, .ref q2]))] ++ [(q1, .inl (cA 0, 10, .inl (fun _ => 0)))]) ++ [(q2, .inl (cA 2, 6, .inr (.inr (.inr (.inr (fun _ => none))))))])) X hin ff_X2_17 rfl rfl rfl (Nat.le_of_ble_eq_true rfl) dX2_init_18 rfl ?_
  refine b_iconst (pc := 21) (v := 0) X dX2_init_21 (by decide) ?_
  refine b_istore_n (pc := 22) (al' := [some (.ref h0), some (.int 0)]) X dX2_init_22 rfl (by decide) rfl rfl ?_
  refine b_iload_n (pc := 23) X dX2_init_23 rfl rfl ?_
  refine b_bipush (pc := 24) (v := 6) X dX2_init_24 (by decide) ?_
  refine b_icmp_ge (pc := 26) (tgt := 48) X dX2_init_26 (by decide) (fun h => absurd h (by decide)) (fun _ => ?_)
  refine b_aload_n (pc := 29) X dX2_init_29 rfl rfl ?_
  refine b_get (pc := 30) (own := RX2) (q := 0) X fl_X2_17 rfl rfl dX2_init_30 ?_
  refine b_iload_n (pc := 33) X dX2_init_33 rfl rfl ?_
  refine b_new (pc := 34) (R := rmB mX2_init 50 424) (k := 2) (n := 16) X fn_X2_15 (Nat.le_of_ble_eq_true rfl) (Nat.le_of_ble_eq_true rfl) dX2_init_34 (fun q3 => ?_)
  refine b_dup (pc := 37) X dX2_init_37 rfl ?_
  refine b_initN (pc := 38) (R := rmB mX2_init 50 424) (k := 3) (n := 35) (st := [.ref q3, .int 0, .ref q2]) (q := q3) (vs := []) (Y := (([(h0, .inr (2, [.int 0, .int 0, .int 0, .int 0, .int 0, .int 0, .int 0, .int 0, .ref q1, .ref q2]))] ++ [(q1, .inl (cA 0, 10, .inl (fun _ => 0)))]) ++ [(q2, .inl (cA 2, 6, .inr (.inr (.inr (.inr (fun _ => none))))))])) X ci_X2_21 X.2.1.1 rfl c_X5_init ⟨Nat.le_of_ble_eq_true rfl, Nat.le_of_ble_eq_true rfl⟩ (Nat.le_of_ble_eq_true rfl) (Nat.le_of_ble_eq_true rfl) (Nat.le_of_ble_eq_true rfl) dX2_init_38 ?_
  rintro g4 _ rfl rfl
  refine b_astq (pc := 41) (q := 2) (t := 2) (qk := List.length (([(h0, .inr (2, [.int 0, .int 0, .int 0, .int 0, .int 0, .int 0, .int 0, .int 0, .ref q1, .ref q2]))] ++ [(q1, .inl (cA 0, 10, .inl (fun _ => 0)))]) ++ [(q2, .inl (cA 2, 6, .inr (.inr (.inr (.inr (fun _ => none))))))])) (ws' := ((([(h0, .inr (2, [.int 0, .int 0, .int 0, .int 0, .int 0, .int 0, .int 0, .int 0, .ref q1, .ref q2]))] ++ [(q1, .inl (cA 0, 10, .inl (fun _ => 0)))]) ++ [(q2, .inl (cA 2, 6, .inr (.inr (.inr (.inr (va_up (fun _ => none) 0 (some (g4 0))))))))]) ++ wo (stS 0) g4 cA mz)) X rfl rfl (wo_len rfl (by decide)) rfl (by unfold vp_in; decide) dX2_init_41 rfl ?_
  refine b_iinc (pc := 42) (v := 1) (al' := [some (.ref h0), some (.int 1)]) X dX2_init_42 rfl (by decide) (by decide) rfl rfl ?_
  refine b_goto (pc := 45) (tgt := 23) X dX2_init_45 (by decide) ?_
  refine b_iload_n (pc := 23) X dX2_init_23 rfl rfl ?_
  refine b_bipush (pc := 24) (v := 6) X dX2_init_24 (by decide) ?_
  refine b_icmp_ge (pc := 26) (tgt := 48) X dX2_init_26 (by decide) (fun h => absurd h (by decide)) (fun _ => ?_)
  refine b_aload_n (pc := 29) X dX2_init_29 rfl rfl ?_
  refine b_get (pc := 30) (own := RX2) (q := 0) X fl_X2_17 rfl rfl dX2_init_30 ?_
  refine b_iload_n (pc := 33) X dX2_init_33 rfl rfl ?_
  refine b_new (pc := 34) (R := rmB mX2_init 50 424) (k := 10) (n := 84) X fn_X2_15 (Nat.le_of_ble_eq_true rfl) (Nat.le_of_ble_eq_true rfl) dX2_init_34 (fun q5 => ?_)
  refine b_dup (pc := 37) X dX2_init_37 rfl ?_
  refine b_initN (pc := 38) (R := rmB mX2_init 50 424) (k := 11) (n := 103) (st := [.ref q5, .int 1, .ref q2]) (q := q5) (vs := []) (Y := ((([(h0, .inr (2, [.int 0, .int 0, .int 0, .int 0, .int 0, .int 0, .int 0, .int 0, .ref q1, .ref q2]))] ++ [(q1, .inl (cA 0, 10, .inl (fun _ => 0)))]) ++ [(q2, .inl (cA 2, 6, .inr (.inr (.inr (.inr (va_up (fun _ => none) 0 (some (g4 0))))))))]) ++ wo (stS 0) g4 cA mz)) X ci_X2_21 X.2.1.1 rfl c_X5_init ⟨Nat.le_of_ble_eq_true rfl, Nat.le_of_ble_eq_true rfl⟩ (Nat.le_of_ble_eq_true rfl) (Nat.le_of_ble_eq_true rfl) (Nat.le_of_ble_eq_true rfl) dX2_init_38 ?_
  rintro g6 _ rfl rfl
  refine b_astq (pc := 41) (q := 2) (t := 2) (qk := List.length ((([(h0, .inr (2, [.int 0, .int 0, .int 0, .int 0, .int 0, .int 0, .int 0, .int 0, .ref q1, .ref q2]))] ++ [(q1, .inl (cA 0, 10, .inl (fun _ => 0)))]) ++ [(q2, .inl (cA 2, 6, .inr (.inr (.inr (.inr (va_up (fun _ => none) 0 (some (g4 0))))))))]) ++ wo (stS 0) g4 cA mz)) (ws' := (((([(h0, .inr (2, [.int 0, .int 0, .int 0, .int 0, .int 0, .int 0, .int 0, .int 0, .ref q1, .ref q2]))] ++ [(q1, .inl (cA 0, 10, .inl (fun _ => 0)))]) ++ [(q2, .inl (cA 2, 6, .inr (.inr (.inr (.inr (va_up (va_up (fun _ => none) 0 (some (g4 0))) 1 (some (g6 0))))))))]) ++ wo (stS 0) g4 cA mz) ++ wo (stS 0) g6 cA mz)) X rfl rfl (wo_len rfl (by decide)) rfl (by unfold vp_in; decide) dX2_init_41 rfl ?_
  refine b_iinc (pc := 42) (v := 2) (al' := [some (.ref h0), some (.int 2)]) X dX2_init_42 rfl (by decide) (by decide) rfl rfl ?_
  refine b_goto (pc := 45) (tgt := 23) X dX2_init_45 (by decide) ?_
  refine b_iload_n (pc := 23) X dX2_init_23 rfl rfl ?_
  refine b_bipush (pc := 24) (v := 6) X dX2_init_24 (by decide) ?_
  refine b_icmp_ge (pc := 26) (tgt := 48) X dX2_init_26 (by decide) (fun h => absurd h (by decide)) (fun _ => ?_)
  refine b_aload_n (pc := 29) X dX2_init_29 rfl rfl ?_
  refine b_get (pc := 30) (own := RX2) (q := 0) X fl_X2_17 rfl rfl dX2_init_30 ?_
  refine b_iload_n (pc := 33) X dX2_init_33 rfl rfl ?_
  refine b_new (pc := 34) (R := rmB mX2_init 50 424) (k := 18) (n := 152) X fn_X2_15 (Nat.le_of_ble_eq_true rfl) (Nat.le_of_ble_eq_true rfl) dX2_init_34 (fun q7 => ?_)
  refine b_dup (pc := 37) X dX2_init_37 rfl ?_
  refine b_initN (pc := 38) (R := rmB mX2_init 50 424) (k := 19) (n := 171) (st := [.ref q7, .int 2, .ref q2]) (q := q7) (vs := []) (Y := (((([(h0, .inr (2, [.int 0, .int 0, .int 0, .int 0, .int 0, .int 0, .int 0, .int 0, .ref q1, .ref q2]))] ++ [(q1, .inl (cA 0, 10, .inl (fun _ => 0)))]) ++ [(q2, .inl (cA 2, 6, .inr (.inr (.inr (.inr (va_up (va_up (fun _ => none) 0 (some (g4 0))) 1 (some (g6 0))))))))]) ++ wo (stS 0) g4 cA mz) ++ wo (stS 0) g6 cA mz)) X ci_X2_21 X.2.1.1 rfl c_X5_init ⟨Nat.le_of_ble_eq_true rfl, Nat.le_of_ble_eq_true rfl⟩ (Nat.le_of_ble_eq_true rfl) (Nat.le_of_ble_eq_true rfl) (Nat.le_of_ble_eq_true rfl) dX2_init_38 ?_
  rintro g8 _ rfl rfl
  refine b_astq (pc := 41) (q := 2) (t := 2) (qk := List.length (((([(h0, .inr (2, [.int 0, .int 0, .int 0, .int 0, .int 0, .int 0, .int 0, .int 0, .ref q1, .ref q2]))] ++ [(q1, .inl (cA 0, 10, .inl (fun _ => 0)))]) ++ [(q2, .inl (cA 2, 6, .inr (.inr (.inr (.inr (va_up (va_up (fun _ => none) 0 (some (g4 0))) 1 (some (g6 0))))))))]) ++ wo (stS 0) g4 cA mz) ++ wo (stS 0) g6 cA mz)) (ws' := ((((([(h0, .inr (2, [.int 0, .int 0, .int 0, .int 0, .int 0, .int 0, .int 0, .int 0, .ref q1, .ref q2]))] ++ [(q1, .inl (cA 0, 10, .inl (fun _ => 0)))]) ++ [(q2, .inl (cA 2, 6, .inr (.inr (.inr (.inr (va_up (va_up (va_up (fun _ => none) 0 (some (g4 0))) 1 (some (g6 0))) 2 (some (g8 0))))))))]) ++ wo (stS 0) g4 cA mz) ++ wo (stS 0) g6 cA mz) ++ wo (stS 0) g8 cA mz)) X rfl rfl (wo_len rfl (by decide)) rfl (by unfold vp_in; decide) dX2_init_41 rfl ?_
  refine b_iinc (pc := 42) (v := 3) (al' := [some (.ref h0), some (.int 3)]) X dX2_init_42 rfl (by decide) (by decide) rfl rfl ?_
  refine b_goto (pc := 45) (tgt := 23) X dX2_init_45 (by decide) ?_
  refine b_iload_n (pc := 23) X dX2_init_23 rfl rfl ?_
  refine b_bipush (pc := 24) (v := 6) X dX2_init_24 (by decide) ?_
  refine b_icmp_ge (pc := 26) (tgt := 48) X dX2_init_26 (by decide) (fun h => absurd h (by decide)) (fun _ => ?_)
  refine b_aload_n (pc := 29) X dX2_init_29 rfl rfl ?_
  refine b_get (pc := 30) (own := RX2) (q := 0) X fl_X2_17 rfl rfl dX2_init_30 ?_
  refine b_iload_n (pc := 33) X dX2_init_33 rfl rfl ?_
  refine b_new (pc := 34) (R := rmB mX2_init 50 424) (k := 26) (n := 220) X fn_X2_15 (Nat.le_of_ble_eq_true rfl) (Nat.le_of_ble_eq_true rfl) dX2_init_34 (fun q9 => ?_)
  refine b_dup (pc := 37) X dX2_init_37 rfl ?_
  refine b_initN (pc := 38) (R := rmB mX2_init 50 424) (k := 27) (n := 239) (st := [.ref q9, .int 3, .ref q2]) (q := q9) (vs := []) (Y := ((((([(h0, .inr (2, [.int 0, .int 0, .int 0, .int 0, .int 0, .int 0, .int 0, .int 0, .ref q1, .ref q2]))] ++ [(q1, .inl (cA 0, 10, .inl (fun _ => 0)))]) ++ [(q2, .inl (cA 2, 6, .inr (.inr (.inr (.inr (va_up (va_up (va_up (fun _ => none) 0 (some (g4 0))) 1 (some (g6 0))) 2 (some (g8 0))))))))]) ++ wo (stS 0) g4 cA mz) ++ wo (stS 0) g6 cA mz) ++ wo (stS 0) g8 cA mz)) X ci_X2_21 X.2.1.1 rfl c_X5_init ⟨Nat.le_of_ble_eq_true rfl, Nat.le_of_ble_eq_true rfl⟩ (Nat.le_of_ble_eq_true rfl) (Nat.le_of_ble_eq_true rfl) (Nat.le_of_ble_eq_true rfl) dX2_init_38 ?_
  rintro g10 _ rfl rfl
  refine b_astq (pc := 41) (q := 2) (t := 2) (qk := List.length ((((([(h0, .inr (2, [.int 0, .int 0, .int 0, .int 0, .int 0, .int 0, .int 0, .int 0, .ref q1, .ref q2]))] ++ [(q1, .inl (cA 0, 10, .inl (fun _ => 0)))]) ++ [(q2, .inl (cA 2, 6, .inr (.inr (.inr (.inr (va_up (va_up (va_up (fun _ => none) 0 (some (g4 0))) 1 (some (g6 0))) 2 (some (g8 0))))))))]) ++ wo (stS 0) g4 cA mz) ++ wo (stS 0) g6 cA mz) ++ wo (stS 0) g8 cA mz)) (ws' := (((((([(h0, .inr (2, [.int 0, .int 0, .int 0, .int 0, .int 0, .int 0, .int 0, .int 0, .ref q1, .ref q2]))] ++ [(q1, .inl (cA 0, 10, .inl (fun _ => 0)))]) ++ [(q2, .inl (cA 2, 6, .inr (.inr (.inr (.inr (va_up (va_up (va_up (va_up (fun _ => none) 0 (some (g4 0))) 1 (some (g6 0))) 2 (some (g8 0))) 3 (some (g10 0))))))))]) ++ wo (stS 0) g4 cA mz) ++ wo (stS 0) g6 cA mz) ++ wo (stS 0) g8 cA mz) ++ wo (stS 0) g10 cA mz)) X rfl rfl (wo_len rfl (by decide)) rfl (by unfold vp_in; decide) dX2_init_41 rfl ?_
  refine b_iinc (pc := 42) (v := 4) (al' := [some (.ref h0), some (.int 4)]) X dX2_init_42 rfl (by decide) (by decide) rfl rfl ?_
  refine b_goto (pc := 45) (tgt := 23) X dX2_init_45 (by decide) ?_
  refine b_iload_n (pc := 23) X dX2_init_23 rfl rfl ?_
  refine b_bipush (pc := 24) (v := 6) X dX2_init_24 (by decide) ?_
  refine b_icmp_ge (pc := 26) (tgt := 48) X dX2_init_26 (by decide) (fun h => absurd h (by decide)) (fun _ => ?_)
  refine b_aload_n (pc := 29) X dX2_init_29 rfl rfl ?_
  refine b_get (pc := 30) (own := RX2) (q := 0) X fl_X2_17 rfl rfl dX2_init_30 ?_
  refine b_iload_n (pc := 33) X dX2_init_33 rfl rfl ?_
  refine b_new (pc := 34) (R := rmB mX2_init 50 424) (k := 34) (n := 288) X fn_X2_15 (Nat.le_of_ble_eq_true rfl) (Nat.le_of_ble_eq_true rfl) dX2_init_34 (fun q11 => ?_)
  refine b_dup (pc := 37) X dX2_init_37 rfl ?_
  refine b_initN (pc := 38) (R := rmB mX2_init 50 424) (k := 35) (n := 307) (st := [.ref q11, .int 4, .ref q2]) (q := q11) (vs := []) (Y := (((((([(h0, .inr (2, [.int 0, .int 0, .int 0, .int 0, .int 0, .int 0, .int 0, .int 0, .ref q1, .ref q2]))] ++ [(q1, .inl (cA 0, 10, .inl (fun _ => 0)))]) ++ [(q2, .inl (cA 2, 6, .inr (.inr (.inr (.inr (va_up (va_up (va_up (va_up (fun _ => none) 0 (some (g4 0))) 1 (some (g6 0))) 2 (some (g8 0))) 3 (some (g10 0))))))))]) ++ wo (stS 0) g4 cA mz) ++ wo (stS 0) g6 cA mz) ++ wo (stS 0) g8 cA mz) ++ wo (stS 0) g10 cA mz)) X ci_X2_21 X.2.1.1 rfl c_X5_init ⟨Nat.le_of_ble_eq_true rfl, Nat.le_of_ble_eq_true rfl⟩ (Nat.le_of_ble_eq_true rfl) (Nat.le_of_ble_eq_true rfl) (Nat.le_of_ble_eq_true rfl) dX2_init_38 ?_
  rintro g12 _ rfl rfl
  refine b_astq (pc := 41) (q := 2) (t := 2) (qk := List.length (((((([(h0, .inr (2, [.int 0, .int 0, .int 0, .int 0, .int 0, .int 0, .int 0, .int 0, .ref q1, .ref q2]))] ++ [(q1, .inl (cA 0, 10, .inl (fun _ => 0)))]) ++ [(q2, .inl (cA 2, 6, .inr (.inr (.inr (.inr (va_up (va_up (va_up (va_up (fun _ => none) 0 (some (g4 0))) 1 (some (g6 0))) 2 (some (g8 0))) 3 (some (g10 0))))))))]) ++ wo (stS 0) g4 cA mz) ++ wo (stS 0) g6 cA mz) ++ wo (stS 0) g8 cA mz) ++ wo (stS 0) g10 cA mz)) (ws' := ((((((([(h0, .inr (2, [.int 0, .int 0, .int 0, .int 0, .int 0, .int 0, .int 0, .int 0, .ref q1, .ref q2]))] ++ [(q1, .inl (cA 0, 10, .inl (fun _ => 0)))]) ++ [(q2, .inl (cA 2, 6, .inr (.inr (.inr (.inr (va_up (va_up (va_up (va_up (va_up (fun _ => none) 0 (some (g4 0))) 1 (some (g6 0))) 2 (some (g8 0))) 3 (some (g10 0))) 4 (some (g12 0))))))))]) ++ wo (stS 0) g4 cA mz) ++ wo (stS 0) g6 cA mz) ++ wo (stS 0) g8 cA mz) ++ wo (stS 0) g10 cA mz) ++ wo (stS 0) g12 cA mz)) X rfl rfl (wo_len rfl (by decide)) rfl (by unfold vp_in; decide) dX2_init_41 rfl ?_
  refine b_iinc (pc := 42) (v := 5) (al' := [some (.ref h0), some (.int 5)]) X dX2_init_42 rfl (by decide) (by decide) rfl rfl ?_
  refine b_goto (pc := 45) (tgt := 23) X dX2_init_45 (by decide) ?_
  refine b_iload_n (pc := 23) X dX2_init_23 rfl rfl ?_
  refine b_bipush (pc := 24) (v := 6) X dX2_init_24 (by decide) ?_
  refine b_icmp_ge (pc := 26) (tgt := 48) X dX2_init_26 (by decide) (fun h => absurd h (by decide)) (fun _ => ?_)
  refine b_aload_n (pc := 29) X dX2_init_29 rfl rfl ?_
  refine b_get (pc := 30) (own := RX2) (q := 0) X fl_X2_17 rfl rfl dX2_init_30 ?_
  refine b_iload_n (pc := 33) X dX2_init_33 rfl rfl ?_
  refine b_new (pc := 34) (R := rmB mX2_init 50 424) (k := 42) (n := 356) X fn_X2_15 (Nat.le_of_ble_eq_true rfl) (Nat.le_of_ble_eq_true rfl) dX2_init_34 (fun q13 => ?_)
  refine b_dup (pc := 37) X dX2_init_37 rfl ?_
  refine b_initN (pc := 38) (R := rmB mX2_init 50 424) (k := 43) (n := 375) (st := [.ref q13, .int 5, .ref q2]) (q := q13) (vs := []) (Y := ((((((([(h0, .inr (2, [.int 0, .int 0, .int 0, .int 0, .int 0, .int 0, .int 0, .int 0, .ref q1, .ref q2]))] ++ [(q1, .inl (cA 0, 10, .inl (fun _ => 0)))]) ++ [(q2, .inl (cA 2, 6, .inr (.inr (.inr (.inr (va_up (va_up (va_up (va_up (va_up (fun _ => none) 0 (some (g4 0))) 1 (some (g6 0))) 2 (some (g8 0))) 3 (some (g10 0))) 4 (some (g12 0))))))))]) ++ wo (stS 0) g4 cA mz) ++ wo (stS 0) g6 cA mz) ++ wo (stS 0) g8 cA mz) ++ wo (stS 0) g10 cA mz) ++ wo (stS 0) g12 cA mz)) X ci_X2_21 X.2.1.1 rfl c_X5_init ⟨Nat.le_of_ble_eq_true rfl, Nat.le_of_ble_eq_true rfl⟩ (Nat.le_of_ble_eq_true rfl) (Nat.le_of_ble_eq_true rfl) (Nat.le_of_ble_eq_true rfl) dX2_init_38 ?_
  rintro g14 _ rfl rfl
  refine b_astq (pc := 41) (q := 2) (t := 2) (qk := List.length ((((((([(h0, .inr (2, [.int 0, .int 0, .int 0, .int 0, .int 0, .int 0, .int 0, .int 0, .ref q1, .ref q2]))] ++ [(q1, .inl (cA 0, 10, .inl (fun _ => 0)))]) ++ [(q2, .inl (cA 2, 6, .inr (.inr (.inr (.inr (va_up (va_up (va_up (va_up (va_up (fun _ => none) 0 (some (g4 0))) 1 (some (g6 0))) 2 (some (g8 0))) 3 (some (g10 0))) 4 (some (g12 0))))))))]) ++ wo (stS 0) g4 cA mz) ++ wo (stS 0) g6 cA mz) ++ wo (stS 0) g8 cA mz) ++ wo (stS 0) g10 cA mz) ++ wo (stS 0) g12 cA mz)) (ws' := (((((((([(h0, .inr (2, [.int 0, .int 0, .int 0, .int 0, .int 0, .int 0, .int 0, .int 0, .ref q1, .ref q2]))] ++ [(q1, .inl (cA 0, 10, .inl (fun _ => 0)))]) ++ [(q2, .inl (cA 2, 6, .inr (.inr (.inr (.inr (va_up (va_up (va_up (va_up (va_up (va_up (fun _ => none) 0 (some (g4 0))) 1 (some (g6 0))) 2 (some (g8 0))) 3 (some (g10 0))) 4 (some (g12 0))) 5 (some (g14 0))))))))]) ++ wo (stS 0) g4 cA mz) ++ wo (stS 0) g6 cA mz) ++ wo (stS 0) g8 cA mz) ++ wo (stS 0) g10 cA mz) ++ wo (stS 0) g12 cA mz) ++ wo (stS 0) g14 cA mz)) X rfl rfl (wo_len rfl (by decide)) rfl (by unfold vp_in; decide) dX2_init_41 rfl ?_
  refine b_iinc (pc := 42) (v := 6) (al' := [some (.ref h0), some (.int 6)]) X dX2_init_42 rfl (by decide) (by decide) rfl rfl ?_
  refine b_goto (pc := 45) (tgt := 23) X dX2_init_45 (by decide) ?_
  refine b_iload_n (pc := 23) X dX2_init_23 rfl rfl ?_
  refine b_bipush (pc := 24) (v := 6) X dX2_init_24 (by decide) ?_
  refine b_icmp_ge (pc := 26) (tgt := 48) X dX2_init_26 (by decide) (fun _ => ?_) (fun h => absurd (by decide) h)
  exact b_ret (pc := 48) (σ := ntA h0 q1 q2 g4 g6 g8 g10 g12 g14) (μ := mz) X rfl rfl rfl net_new dX2_init_48
