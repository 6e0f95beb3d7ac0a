/-! the Reader's constructor; the reference's -/
def rdrS : Shp := [(3, 5, [some 2, some 3, some 1, none, none]), (100, 3, [])]
set_option maxHeartbeats 4000000 in
set_option maxRecDepth 100000 in
theorem c_X3_init {aT aN : Nat} : BCon mX3_init 1 3 3 [.null, .null, .null, .int 0, .int 0] [.ref aT, .ref aN] rdrS (fun σ μ => μ = mz ∧ σ 2 = aT ∧ σ 3 = aN) := by
  refine BCon.ofBW (by decide) rfl rfl (Nat.le_of_ble_eq_true rfl) ?_
  intro l cA D A p e s m args below meth c h0 X hin
  refine b_aload_n (pc := 0) X dX3_init_0 rfl rfl ?_
  refine b_objInit (pc := 1) X ol_X3 wo_oi wo_oc dX3_init_1 (Nat.le_of_ble_eq_true rfl) (Nat.le_of_ble_eq_true rfl) ?_
  refine b_aload_n (pc := 4) X dX3_init_4 rfl rfl ?_
  refine b_iconst (pc := 5) (v := 3) X dX3_init_5 (by decide) ?_
  refine b_newi (pc := 6) (R := rmB mX3_init 1 3) (k := 0) (n := 0) (N := 3) X (by decide) (by decide) (Nat.le_of_ble_eq_true rfl) (Nat.le_of_ble_eq_true rfl) (Nat.le_of_ble_eq_true rfl) dX3_init_6 (fun q1 => ?_)
  refine b_putF (pc := 8) (q := 0) (ws' := ([(h0, .inr (3, [.null, .null, .ref q1, .int 0, .int 0]))] ++ [(q1, .inl (cA 0, 3, .inl (fun _ => 0)))])) X hin ff_X3_11 rfl rfl rfl (Nat.le_of_ble_eq_true rfl) dX3_init_8 rfl ?_
  refine b_aload_n (pc := 11) X dX3_init_11 rfl rfl ?_
  refine b_aload_n (pc := 12) X dX3_init_12 rfl rfl ?_
  refine b_putF (pc := 13) (q := 0) (ws' := ([(h0, .inr (3, [.ref aT, .null, .ref q1, .int 0, .int 0]))] ++ [(q1, .inl (cA 0, 3, .inl (fun _ => 0)))])) X hin ff_X3_15 rfl rfl rfl (Nat.le_of_ble_eq_true rfl) dX3_init_13 rfl ?_
  refine b_aload_n (pc := 16) X dX3_init_16 rfl rfl ?_
  refine b_aload_n (pc := 17) X dX3_init_17 rfl rfl ?_
  refine b_putF (pc := 18) (q := 0) (ws' := ([(h0, .inr (3, [.ref aT, .ref aN, .ref q1, .int 0, .int 0]))] ++ [(q1, .inl (cA 0, 3, .inl (fun _ => 0)))])) X hin ff_X3_19 rfl rfl rfl (Nat.le_of_ble_eq_true rfl) dX3_init_18 rfl ?_
  exact b_ret (pc := 21) (σ := fun x => match x with | 0 => h0 | 1 => q1 | 2 => aT | _ => aN) (μ := mz) X rfl rfl ⟨rfl, rfl, rfl⟩ (by simp only [wo_R]; rfl) dX3_init_21
def nu0 : Mem := clrF mz
def nu1 : Mem := up2 nu0 0 10 4
def nu2 : Mem := hrsF nu1 2 0 1
def nu3 : Mem := hrsF nu2 2 1 2
def nu4 : Mem := hrsF nu3 2 2 3
def nu5 : Mem := adsF nu4 2 0 0 (nI 1) (nI 5)
def nu6 : Mem := adsF nu5 2 2 0 (nI 1) (nI 5)
def nu7 : Mem := adsF nu6 2 3 0 (nI 2) (nI 1)
def nu8 : Mem := adsF nu7 2 1 0 (nI 0) (nI 2)
def nuF : Mem := tkF nu8 4
set_option maxHeartbeats 4000000 in
set_option maxRecDepth 100000 in
theorem c_X7_init : BCon mX7_init 8 3308 7 [.int 0, .null, .int 0, .int 0, .int 0, .int 0, .int 0, .null, .null, .int 0, .int 0, .null, .int 0, .int 0, .null, .null, .null, .null] [] shM (fun _ μ => μ = nuF) := by
  refine BCon.ofBW (by decide) rfl rfl (Nat.le_of_ble_eq_true rfl) ?_
  intro l cA D A p e s m args below meth c h0 X hin
  refine b_aload_n (pc := 0) X dX7_init_0 rfl rfl ?_
  refine b_objInit (pc := 1) X ol_X7 wo_oi wo_oc dX7_init_1 (Nat.le_of_ble_eq_true rfl) (Nat.le_of_ble_eq_true rfl) ?_
  refine b_aload_n (pc := 4) X dX7_init_4 rfl rfl ?_
  refine b_sipush (pc := 5) (v := 200) X dX7_init_5 (by decide) ?_
  refine b_newi (pc := 8) (R := rmB mX7_init 8 3308) (k := 0) (n := 0) (N := 200) X (by decide) (by decide) (Nat.le_of_ble_eq_true rfl) (Nat.le_of_ble_eq_true rfl) (Nat.le_of_ble_eq_true rfl) dX7_init_8 (fun q1 => ?_)
  refine b_putF (pc := 10) (q := 0) (ws' := ([(h0, .inr (7, [.int 0, .ref q1, .int 0, .int 0, .int 0, .int 0, .int 0, .null, .null, .int 0, .int 0, .null, .int 0, .int 0, .null, .null, .null, .null]))] ++ [(q1, .inl (cA 0, 200, .inl (fun _ => 0)))])) X hin ff_X7_7 rfl rfl rfl (Nat.le_of_ble_eq_true rfl) dX7_init_10 rfl ?_
  refine b_aload_n (pc := 13) X dX7_init_13 rfl rfl ?_
  refine b_sipush (pc := 14) (v := 1320) X dX7_init_14 (by decide) ?_
  refine b_newi (pc := 17) (R := rmB mX7_init 8 3308) (k := 1) (n := 200) (N := 1320) X (by decide) (by decide) (Nat.le_of_ble_eq_true rfl) (Nat.le_of_ble_eq_true rfl) (Nat.le_of_ble_eq_true rfl) dX7_init_17 (fun q2 => ?_)
  refine b_putF (pc := 19) (q := 0) (ws' := (([(h0, .inr (7, [.int 0, .ref q1, .int 0, .int 0, .int 0, .int 0, .int 0, .ref q2, .null, .int 0, .int 0, .null, .int 0, .int 0, .null, .null, .null, .null]))] ++ [(q1, .inl (cA 0, 200, .inl (fun _ => 0)))]) ++ [(q2, .inl (cA 0, 1320, .inl (fun _ => 0)))])) X hin ff_X7_13 rfl rfl rfl (Nat.le_of_ble_eq_true rfl) dX7_init_19 rfl ?_
  refine b_aload_n (pc := 22) X dX7_init_22 rfl rfl ?_
  refine b_sipush (pc := 23) (v := 1760) X dX7_init_23 (by decide) ?_
  refine b_newi (pc := 26) (R := rmB mX7_init 8 3308) (k := 2) (n := 1520) (N := 1760) X (by decide) (by decide) (Nat.le_of_ble_eq_true rfl) (Nat.le_of_ble_eq_true rfl) (Nat.le_of_ble_eq_true rfl) dX7_init_26 (fun q3 => ?_)
  refine b_putF (pc := 28) (q := 0) (ws' := ((([(h0, .inr (7, [.int 0, .ref q1, .int 0, .int 0, .int 0, .int 0, .int 0, .ref q2, .ref q3, .int 0, .int 0, .null, .int 0, .int 0, .null, .null, .null, .null]))] ++ [(q1, .inl (cA 0, 200, .inl (fun _ => 0)))]) ++ [(q2, .inl (cA 0, 1320, .inl (fun _ => 0)))]) ++ [(q3, .inl (cA 0, 1760, .inl (fun _ => 0)))])) X hin ff_X7_16 rfl rfl rfl (Nat.le_of_ble_eq_true rfl) dX7_init_28 rfl ?_
  refine b_aload_n (pc := 31) X dX7_init_31 rfl rfl ?_
  refine b_iconst (pc := 32) (v := 4) X dX7_init_32 (by decide) ?_
  refine b_newi (pc := 33) (R := rmB mX7_init 8 3308) (k := 3) (n := 3280) (N := 4) X (by decide) (by decide) (Nat.le_of_ble_eq_true rfl) (Nat.le_of_ble_eq_true rfl) (Nat.le_of_ble_eq_true rfl) dX7_init_33 (fun q4 => ?_)
  refine b_putF (pc := 35) (q := 0) (ws' := (((([(h0, .inr (7, [.int 0, .ref q1, .int 0, .int 0, .int 0, .int 0, .int 0, .ref q2, .ref q3, .int 0, .int 0, .ref q4, .int 0, .int 0, .null, .null, .null, .null]))] ++ [(q1, .inl (cA 0, 200, .inl (fun _ => 0)))]) ++ [(q2, .inl (cA 0, 1320, .inl (fun _ => 0)))]) ++ [(q3, .inl (cA 0, 1760, .inl (fun _ => 0)))]) ++ [(q4, .inl (cA 0, 4, .inl (fun _ => 0)))])) X hin ff_X7_19 rfl rfl rfl (Nat.le_of_ble_eq_true rfl) dX7_init_35 rfl ?_
  refine b_aload_n (pc := 38) X dX7_init_38 rfl rfl ?_
  refine b_bipush (pc := 39) (v := 6) X dX7_init_39 (by decide) ?_
  refine b_newi (pc := 41) (R := rmB mX7_init 8 3308) (k := 4) (n := 3284) (N := 6) X (by decide) (by decide) (Nat.le_of_ble_eq_true rfl) (Nat.le_of_ble_eq_true rfl) (Nat.le_of_ble_eq_true rfl) dX7_init_41 (fun q5 => ?_)
  refine b_putF (pc := 43) (q := 0) (ws' := ((((([(h0, .inr (7, [.int 0, .ref q1, .int 0, .int 0, .int 0, .int 0, .int 0, .ref q2, .ref q3, .int 0, .int 0, .ref q4, .int 0, .int 0, .ref q5, .null, .null, .null]))] ++ [(q1, .inl (cA 0, 200, .inl (fun _ => 0)))]) ++ [(q2, .inl (cA 0, 1320, .inl (fun _ => 0)))]) ++ [(q3, .inl (cA 0, 1760, .inl (fun _ => 0)))]) ++ [(q4, .inl (cA 0, 4, .inl (fun _ => 0)))]) ++ [(q5, .inl (cA 0, 6, .inl (fun _ => 0)))])) X hin ff_X7_22 rfl rfl rfl (Nat.le_of_ble_eq_true rfl) dX7_init_43 rfl ?_
  refine b_aload_n (pc := 46) X dX7_init_46 rfl rfl ?_
  refine b_bipush (pc := 47) (v := 6) X dX7_init_47 (by decide) ?_
  refine b_newi (pc := 49) (R := rmB mX7_init 8 3308) (k := 5) (n := 3290) (N := 6) X (by decide) (by decide) (Nat.le_of_ble_eq_true rfl) (Nat.le_of_ble_eq_true rfl) (Nat.le_of_ble_eq_true rfl) dX7_init_49 (fun q6 => ?_)
  refine b_putF (pc := 51) (q := 0) (ws' := (((((([(h0, .inr (7, [.int 0, .ref q1, .int 0, .int 0, .int 0, .int 0, .int 0, .ref q2, .ref q3, .int 0, .int 0, .ref q4, .int 0, .int 0, .ref q5, .ref q6, .null, .null]))] ++ [(q1, .inl (cA 0, 200, .inl (fun _ => 0)))]) ++ [(q2, .inl (cA 0, 1320, .inl (fun _ => 0)))]) ++ [(q3, .inl (cA 0, 1760, .inl (fun _ => 0)))]) ++ [(q4, .inl (cA 0, 4, .inl (fun _ => 0)))]) ++ [(q5, .inl (cA 0, 6, .inl (fun _ => 0)))]) ++ [(q6, .inl (cA 0, 6, .inl (fun _ => 0)))])) X hin ff_X7_25 rfl rfl rfl (Nat.le_of_ble_eq_true rfl) dX7_init_51 rfl ?_
  refine b_aload_n (pc := 54) X dX7_init_54 rfl rfl ?_
  refine b_bipush (pc := 55) (v := 6) X dX7_init_55 (by decide) ?_
  refine b_newi (pc := 57) (R := rmB mX7_init 8 3308) (k := 6) (n := 3296) (N := 6) X (by decide) (by decide) (Nat.le_of_ble_eq_true rfl) (Nat.le_of_ble_eq_true rfl) (Nat.le_of_ble_eq_true rfl) dX7_init_57 (fun q7 => ?_)
  refine b_putF (pc := 59) (q := 0) (ws' := ((((((([(h0, .inr (7, [.int 0, .ref q1, .int 0, .int 0, .int 0, .int 0, .int 0, .ref q2, .ref q3, .int 0, .int 0, .ref q4, .int 0, .int 0, .ref q5, .ref q6, .ref q7, .null]))] ++ [(q1, .inl (cA 0, 200, .inl (fun _ => 0)))]) ++ [(q2, .inl (cA 0, 1320, .inl (fun _ => 0)))]) ++ [(q3, .inl (cA 0, 1760, .inl (fun _ => 0)))]) ++ [(q4, .inl (cA 0, 4, .inl (fun _ => 0)))]) ++ [(q5, .inl (cA 0, 6, .inl (fun _ => 0)))]) ++ [(q6, .inl (cA 0, 6, .inl (fun _ => 0)))]) ++ [(q7, .inl (cA 0, 6, .inl (fun _ => 0)))])) X hin ff_X7_28 rfl rfl rfl (Nat.le_of_ble_eq_true rfl) dX7_init_59 rfl ?_
  refine b_aload_n (pc := 62) X dX7_init_62 rfl rfl ?_
  refine b_bipush (pc := 63) (v := 6) X dX7_init_63 (by decide) ?_
  refine b_newi (pc := 65) (R := rmB mX7_init 8 3308) (k := 7) (n := 3302) (N := 6) X (by decide) (by decide) (Nat.le_of_ble_eq_true rfl) (Nat.le_of_ble_eq_true rfl) (Nat.le_of_ble_eq_true rfl) dX7_init_65 (fun q8 => ?_)
  refine b_putF (pc := 67) (q := 0) (ws' := (((((((([(h0, .inr (7, [.int 0, .ref q1, .int 0, .int 0, .int 0, .int 0, .int 0, .ref q2, .ref q3, .int 0, .int 0, .ref q4, .int 0, .int 0, .ref q5, .ref q6, .ref q7, .ref q8]))] ++ [(q1, .inl (cA 0, 200, .inl (fun _ => 0)))]) ++ [(q2, .inl (cA 0, 1320, .inl (fun _ => 0)))]) ++ [(q3, .inl (cA 0, 1760, .inl (fun _ => 0)))]) ++ [(q4, .inl (cA 0, 4, .inl (fun _ => 0)))]) ++ [(q5, .inl (cA 0, 6, .inl (fun _ => 0)))]) ++ [(q6, .inl (cA 0, 6, .inl (fun _ => 0)))]) ++ [(q7, .inl (cA 0, 6, .inl (fun _ => 0)))]) ++ [(q8, .inl (cA 0, 6, .inl (fun _ => 0)))])) X hin ff_X7_31 rfl rfl rfl (Nat.le_of_ble_eq_true rfl) dX7_init_67 rfl ?_
  obtain ⟨σ, hσ0, hw⟩ : ∃ σ : Nat → Nat, σ 0 = h0 ∧ (((((((([(h0, .inr (7, [.int 0, .ref q1, .int 0, .int 0, .int 0, .int 0, .int 0, .ref q2, .ref q3, .int 0, .int 0, .ref q4, .int 0, .int 0, .ref q5, .ref q6, .ref q7, .ref q8]))] ++ [(q1, .inl (cA 0, 200, .inl (fun _ => 0)))]) ++ [(q2, .inl (cA 0, 1320, .inl (fun _ => 0)))]) ++ [(q3, .inl (cA 0, 1760, .inl (fun _ => 0)))]) ++ [(q4, .inl (cA 0, 4, .inl (fun _ => 0)))]) ++ [(q5, .inl (cA 0, 6, .inl (fun _ => 0)))]) ++ [(q6, .inl (cA 0, 6, .inl (fun _ => 0)))]) ++ [(q7, .inl (cA 0, 6, .inl (fun _ => 0)))]) ++ [(q8, .inl (cA 0, 6, .inl (fun _ => 0)))]) = wo shM σ cA mz := ⟨fun x => match x with | 0 => h0 | 1 => q1 | 2 => q2 | 3 => q3 | 4 => q4 | 5 => q5 | 6 => q6 | 7 => q7 | _ => q8, rfl, by simp only [wo_R]; rfl⟩
  refine BW.cast ?_ rfl rfl hw.symm
  subst hσ0
  refine b_aload_n (pc := 70) X dX7_init_70 rfl rfl ?_
  refine BW.cast (st := (([] : List Value).map (cvl σ)).reverse ++ .ref (σ 0) :: []) ?_ rfl rfl rfl
  refine b_conV1 (pc := 71) (R := rmB mX7_init 8 3308) (k := 8) (n := 3308) (b := 0) (As := []) X ck_X7_34 ⟨Nat.le_of_ble_eq_true rfl, Nat.le_of_ble_eq_true rfl⟩ rfl (by decide) rfl (Nat.le_of_ble_eq_true rfl) (Nat.le_of_ble_eq_true rfl) (Nat.le_of_ble_eq_true rfl) dX7_init_71 rfl c_X7_clears ?_
  rintro _ rfl
  refine b_aload_n (pc := 74) X dX7_init_74 rfl rfl ?_
  refine b_iconst (pc := 75) (v := 4) X dX7_init_75 (by decide) ?_
  refine b_putw (pc := 76) (o := 0) X fp_X7_37 rfl (by decide) rfl dX7_init_76 ?_
  refine b_aload_n (pc := 79) X dX7_init_79 rfl rfl ?_
  refine b_iconst (pc := 80) (v := 2) X dX7_init_80 (by decide) ?_
  refine b_iconst (pc := 81) (v := 0) X dX7_init_81 (by decide) ?_
  refine b_iconst (pc := 82) (v := 1) X dX7_init_82 (by decide) ?_
  refine BW.cast (st := (([.int (nI 2), .int (nI 0), .int (nI 1)] : List Value).map (cvl σ)).reverse ++ .ref (σ 0) :: []) ?_ rfl rfl rfl
  refine b_conV1 (pc := 83) (R := rmB mX7_init 8 3308) (k := 8) (n := 3308) (b := 0) (As := [.int (nI 2), .int (nI 0), .int (nI 1)]) X ck_X7_41 ⟨Nat.le_of_ble_eq_true rfl, Nat.le_of_ble_eq_true rfl⟩ rfl (by decide) rfl (Nat.le_of_ble_eq_true rfl) (Nat.le_of_ble_eq_true rfl) (Nat.le_of_ble_eq_true rfl) dX7_init_83 rfl (c_X7_hears (r := 2) (by decide) (by decide) (by decide) (by decide)) ?_
  rintro _ rfl
  refine b_aload_n (pc := 86) X dX7_init_86 rfl rfl ?_
  refine b_iconst (pc := 87) (v := 2) X dX7_init_87 (by decide) ?_
  refine b_iconst (pc := 88) (v := 1) X dX7_init_88 (by decide) ?_
  refine b_iconst (pc := 89) (v := 2) X dX7_init_89 (by decide) ?_
  refine BW.cast (st := (([.int (nI 2), .int (nI 1), .int (nI 2)] : List Value).map (cvl σ)).reverse ++ .ref (σ 0) :: []) ?_ rfl rfl rfl
  refine b_conV1 (pc := 90) (R := rmB mX7_init 8 3308) (k := 8) (n := 3308) (b := 0) (As := [.int (nI 2), .int (nI 1), .int (nI 2)]) X ck_X7_41 ⟨Nat.le_of_ble_eq_true rfl, Nat.le_of_ble_eq_true rfl⟩ rfl (by decide) rfl (Nat.le_of_ble_eq_true rfl) (Nat.le_of_ble_eq_true rfl) (Nat.le_of_ble_eq_true rfl) dX7_init_90 rfl (c_X7_hears (r := 2) (by decide) (by decide) (by decide) (by decide)) ?_
  rintro _ rfl
  refine b_aload_n (pc := 93) X dX7_init_93 rfl rfl ?_
  refine b_iconst (pc := 94) (v := 2) X dX7_init_94 (by decide) ?_
  refine b_iconst (pc := 95) (v := 2) X dX7_init_95 (by decide) ?_
  refine b_iconst (pc := 96) (v := 3) X dX7_init_96 (by decide) ?_
  refine BW.cast (st := (([.int (nI 2), .int (nI 2), .int (nI 3)] : List Value).map (cvl σ)).reverse ++ .ref (σ 0) :: []) ?_ rfl rfl rfl
  refine b_conV1 (pc := 97) (R := rmB mX7_init 8 3308) (k := 8) (n := 3308) (b := 0) (As := [.int (nI 2), .int (nI 2), .int (nI 3)]) X ck_X7_41 ⟨Nat.le_of_ble_eq_true rfl, Nat.le_of_ble_eq_true rfl⟩ rfl (by decide) rfl (Nat.le_of_ble_eq_true rfl) (Nat.le_of_ble_eq_true rfl) (Nat.le_of_ble_eq_true rfl) dX7_init_97 rfl (c_X7_hears (r := 2) (by decide) (by decide) (by decide) (by decide)) ?_
  rintro _ rfl
  refine b_aload_n (pc := 100) X dX7_init_100 rfl rfl ?_
  refine b_iconst (pc := 101) (v := 2) X dX7_init_101 (by decide) ?_
  refine b_iconst (pc := 102) (v := 0) X dX7_init_102 (by decide) ?_
  refine b_iconst (pc := 103) (v := 1) X dX7_init_103 (by decide) ?_
  refine b_iconst (pc := 104) (v := 5) X dX7_init_104 (by decide) ?_
  refine BW.cast (st := (([.int (nI 2), .int (nI 0), .int (nI 1), .int (nI 5)] : List Value).map (cvl σ)).reverse ++ .ref (σ 0) :: []) ?_ rfl rfl rfl
  refine b_conV1 (pc := 105) (R := rmB mX7_init 8 3308) (k := 8) (n := 3308) (b := 0) (As := [.int (nI 2), .int (nI 0), .int (nI 1), .int (nI 5)]) X ck_X7_45 ⟨Nat.le_of_ble_eq_true rfl, Nat.le_of_ble_eq_true rfl⟩ rfl (by decide) rfl (Nat.le_of_ble_eq_true rfl) (Nat.le_of_ble_eq_true rfl) (Nat.le_of_ble_eq_true rfl) dX7_init_105 rfl (c_X7_adds (ν := nu4) (r := 2) (s := 0) (by decide) (by decide) (by decide +kernel) (by decide)) ?_
  rintro _ rfl
  refine b_aload_n (pc := 108) X dX7_init_108 rfl rfl ?_
  refine b_iconst (pc := 109) (v := 2) X dX7_init_109 (by decide) ?_
  refine b_iconst (pc := 110) (v := 2) X dX7_init_110 (by decide) ?_
  refine b_iconst (pc := 111) (v := 1) X dX7_init_111 (by decide) ?_
  refine b_iconst (pc := 112) (v := 5) X dX7_init_112 (by decide) ?_
  refine BW.cast (st := (([.int (nI 2), .int (nI 2), .int (nI 1), .int (nI 5)] : List Value).map (cvl σ)).reverse ++ .ref (σ 0) :: []) ?_ rfl rfl rfl
  refine b_conV1 (pc := 113) (R := rmB mX7_init 8 3308) (k := 8) (n := 3308) (b := 0) (As := [.int (nI 2), .int (nI 2), .int (nI 1), .int (nI 5)]) X ck_X7_45 ⟨Nat.le_of_ble_eq_true rfl, Nat.le_of_ble_eq_true rfl⟩ rfl (by decide) rfl (Nat.le_of_ble_eq_true rfl) (Nat.le_of_ble_eq_true rfl) (Nat.le_of_ble_eq_true rfl) dX7_init_113 rfl (c_X7_adds (ν := nu5) (r := 2) (s := 0) (by decide) (by decide) (by decide +kernel) (by decide)) ?_
  rintro _ rfl
  refine b_aload_n (pc := 116) X dX7_init_116 rfl rfl ?_
  refine b_iconst (pc := 117) (v := 2) X dX7_init_117 (by decide) ?_
  refine b_iconst (pc := 118) (v := 3) X dX7_init_118 (by decide) ?_
  refine b_iconst (pc := 119) (v := 2) X dX7_init_119 (by decide) ?_
  refine b_iconst (pc := 120) (v := 1) X dX7_init_120 (by decide) ?_
  refine BW.cast (st := (([.int (nI 2), .int (nI 3), .int (nI 2), .int (nI 1)] : List Value).map (cvl σ)).reverse ++ .ref (σ 0) :: []) ?_ rfl rfl rfl
  refine b_conV1 (pc := 121) (R := rmB mX7_init 8 3308) (k := 8) (n := 3308) (b := 0) (As := [.int (nI 2), .int (nI 3), .int (nI 2), .int (nI 1)]) X ck_X7_45 ⟨Nat.le_of_ble_eq_true rfl, Nat.le_of_ble_eq_true rfl⟩ rfl (by decide) rfl (Nat.le_of_ble_eq_true rfl) (Nat.le_of_ble_eq_true rfl) (Nat.le_of_ble_eq_true rfl) dX7_init_121 rfl (c_X7_adds (ν := nu6) (r := 2) (s := 0) (by decide) (by decide) (by decide +kernel) (by decide)) ?_
  rintro _ rfl
  refine b_aload_n (pc := 124) X dX7_init_124 rfl rfl ?_
  refine b_iconst (pc := 125) (v := 2) X dX7_init_125 (by decide) ?_
  refine b_iconst (pc := 126) (v := 1) X dX7_init_126 (by decide) ?_
  refine b_iconst (pc := 127) (v := 0) X dX7_init_127 (by decide) ?_
  refine b_iconst (pc := 128) (v := 2) X dX7_init_128 (by decide) ?_
  refine BW.cast (st := (([.int (nI 2), .int (nI 1), .int (nI 0), .int (nI 2)] : List Value).map (cvl σ)).reverse ++ .ref (σ 0) :: []) ?_ rfl rfl rfl
  refine b_conV1 (pc := 129) (R := rmB mX7_init 8 3308) (k := 8) (n := 3308) (b := 0) (As := [.int (nI 2), .int (nI 1), .int (nI 0), .int (nI 2)]) X ck_X7_45 ⟨Nat.le_of_ble_eq_true rfl, Nat.le_of_ble_eq_true rfl⟩ rfl (by decide) rfl (Nat.le_of_ble_eq_true rfl) (Nat.le_of_ble_eq_true rfl) (Nat.le_of_ble_eq_true rfl) dX7_init_129 rfl (c_X7_adds (ν := nu7) (r := 2) (s := 0) (by decide) (by decide) (by decide +kernel) (by decide)) ?_
  rintro _ rfl
  refine b_aload_n (pc := 132) X dX7_init_132 rfl rfl ?_
  refine BW.cast (st := (([] : List Value).map (cvl σ)).reverse ++ .ref (σ 0) :: []) ?_ rfl rfl rfl
  refine b_conV1 (pc := 133) (R := rmB mX7_init 8 3308) (k := 8) (n := 3308) (b := 0) (As := []) X ck_X7_49 ⟨Nat.le_of_ble_eq_true rfl, Nat.le_of_ble_eq_true rfl⟩ rfl (by decide) rfl (Nat.le_of_ble_eq_true rfl) (Nat.le_of_ble_eq_true rfl) (Nat.le_of_ble_eq_true rfl) dX7_init_133 rfl (c_X7_takes (ν := nu8) (N := 4) (by decide +kernel) (by decide) (by decide +kernel)) ?_
  rintro _ rfl
  exact b_ret (pc := 136) (σ := σ) (μ := nuF) X rfl rfl rfl rfl dX7_init_136
