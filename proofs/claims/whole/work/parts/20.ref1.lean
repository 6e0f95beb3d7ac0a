/-! the reference's objects: 0 the model, 1 text, 2 row, 3 was, 4 readRule, 5 what, 6 whom, 7 wide, 8 part -/
def shM : Shp := [(7, 18, [none, some 1, none, none, none, none, none, some 2, some 3, none, none, some 4, none, none, some 5, some 6, some 7, some 8]), (100, 200, []), (100, 1320, []), (100, 1760, []), (100, 4, []), (100, 6, []), (100, 6, []), (100, 6, []), (100, 6, [])]
theorem up2_ap (μ : Mem) (o k : Nat) (v : Int32) (o' k' : Nat) : up2 μ o k v o' k' = if o' = o then (if k' = k then v else μ o k') else μ o' k' := by
  unfold up2; by_cases h : o' = o
  · subst h; simp [upd]
  · simp [h]
theorem upA_ap (μ : Mem) (o : Nat) (f : Nat → Int32) (o' : Nat) : upA μ o f o' = if o' = o then f else μ o' := rfl
theorem upd_ap (f : Nat → Int32) (k : Nat) (v : Int32) (j : Nat) : upd f k v j = if j = k then v else f j := by unfold upd; rfl
set_option maxHeartbeats 4000000 in
set_option maxRecDepth 100000 in
theorem c_X7_at {ν : Mem} {r i : Nat} : Con shM mX7_at [.int (nI r), .int (nI i)] ν (fun q u => q = nI (440 * r + 70 * i) ∧ ν = u) := by
  refine Con.ofAW (al0 := [some (.int (nI r)), some (.int (nI i))]) (by decide) rfl (Nat.le_of_ble_eq_true rfl) rfl ?_
  refine a_sipush (pc := 0) (v := 440) dX7_at_0 (by decide) ?_
  refine a_iload_n (pc := 3) dX7_at_3 rfl rfl ?_
  refine a_imulN (pc := 4) (a := 440) (b := _) rfl rfl dX7_at_4 ?_
  refine a_bipush (pc := 5) (v := 70) dX7_at_5 (by decide) ?_
  refine a_iload_n (pc := 7) dX7_at_7 rfl rfl ?_
  refine a_imulN (pc := 8) (a := 70) (b := _) rfl rfl dX7_at_8 ?_
  refine a_iaddN (pc := 9) (a := _) (b := _) rfl rfl dX7_at_9 ?_
  refine a_iret (pc := 10) rfl dX7_at_10 ?_
  exact ⟨rfl, rfl⟩

set_option maxHeartbeats 4000000 in
set_option maxRecDepth 100000 in
theorem c_X7_isIn {ν : Mem} {v lo hi : Int32} : Con shM mX7_isIn [.int v, .int lo, .int hi] ν (fun q u => (q = 1 ∧ ¬ v < lo ∧ ¬ hi < v ∨ q = 0 ∧ (v < lo ∨ hi < v)) ∧ ν = u) := by
  refine Con.ofAW (al0 := [some (.int v), some (.int lo), some (.int hi)]) (by decide) rfl (Nat.le_of_ble_eq_true rfl) rfl ?_
  refine a_iload_n (pc := 0) dX7_isIn_0 rfl rfl ?_
  refine a_iload_n (pc := 1) dX7_isIn_1 rfl rfl ?_
  refine a_icmp_lt (pc := 2) (tgt := 14) dX7_isIn_2 (by decide) (fun c_2 => ?_) (fun c_2 => ?_)
  · refine a_iconst (pc := 14) (v := 0) dX7_isIn_14 (by decide) ?_
    refine a_zret (pc := 15) rfl (by rfl) dX7_isIn_15 ?_
    simp_all [-Int32.not_lt, -Int32.not_le, -Nat.not_lt]
  · refine a_iload_n (pc := 5) dX7_isIn_5 rfl rfl ?_
    refine a_iload_n (pc := 6) dX7_isIn_6 rfl rfl ?_
    refine a_icmp_gt (pc := 7) (tgt := 14) dX7_isIn_7 (by decide) (fun c_7 => ?_) (fun c_7 => ?_)
    · refine a_iconst (pc := 14) (v := 0) dX7_isIn_14 (by decide) ?_
      refine a_zret (pc := 15) rfl (by rfl) dX7_isIn_15 ?_
      simp_all [-Int32.not_lt, -Int32.not_le, -Nat.not_lt]
    · refine a_iconst (pc := 10) (v := 1) dX7_isIn_10 (by decide) ?_
      refine a_goto (pc := 11) (tgt := 15) dX7_isIn_11 (by decide) ?_
      refine a_zret (pc := 15) rfl (by rfl) dX7_isIn_15 ?_
      simp_all [-Int32.not_lt, -Int32.not_le, -Nat.not_lt]

set_option maxHeartbeats 4000000 in
set_option maxRecDepth 100000 in
theorem c_X7_has {ν : Mem} {x j : Int32} : Con shM mX7_has [.int x, .int j] ν (fun q u => (q = 1 ∧ bitF x j ∨ q = 0 ∧ ¬ bitF x j) ∧ ν = u) := by
  refine Con.ofAW (al0 := [some (.int x), some (.int j)]) (by decide) rfl (Nat.le_of_ble_eq_true rfl) rfl ?_
  refine a_iload_n (pc := 0) dX7_has_0 rfl rfl ?_
  refine a_iload_n (pc := 1) dX7_has_1 rfl rfl ?_
  refine a_ishr (pc := 2) dX7_has_2 ?_
  refine a_iconst (pc := 3) (v := 1) dX7_has_3 (by decide) ?_
  refine a_iand (pc := 4) dX7_has_4 ?_
  refine a_iconst (pc := 5) (v := 1) dX7_has_5 (by decide) ?_
  refine a_icmp_ne (pc := 6) (tgt := 13) dX7_has_6 (by decide) (fun c_6 => ?_) (fun c_6 => ?_)
  · refine a_iconst (pc := 13) (v := 0) dX7_has_13 (by decide) ?_
    refine a_zret (pc := 14) rfl (by rfl) dX7_has_14 ?_
    simp_all [bitF]
  · refine a_iconst (pc := 9) (v := 1) dX7_has_9 (by decide) ?_
    refine a_goto (pc := 10) (tgt := 14) dX7_has_10 (by decide) ?_
    refine a_zret (pc := 14) rfl (by rfl) dX7_has_14 ?_
    simp_all [bitF]

set_option maxHeartbeats 4000000 in
set_option maxRecDepth 100000 in
theorem c_X7_bits {ν : Mem} {m : Nat} (hm : m < 64) : Con shM mX7_bits [.int (nI m)] ν (fun q u => q = nI (popN m) ∧ ν = u) := by
  refine Con.ofAW (al0 := [some (.int (nI m)), none, none]) (by decide) rfl (Nat.le_of_ble_eq_true rfl) rfl ?_
  refine a_iconst (pc := 0) (v := 0) dX7_bits_0 (by decide) ?_
  refine a_istore_n (pc := 1) (al' := [some (.int _), some (.int _), none]) dX7_bits_1 rfl (by decide) rfl rfl ?_
  refine a_iconst (pc := 2) (v := 0) dX7_bits_2 (by decide) ?_
  refine a_istore_n (pc := 3) (al' := [some (.int _), some (.int _), some (.int _)]) dX7_bits_3 rfl (by decide) rfl rfl ?_
  refine a_iload_n (pc := 4) dX7_bits_4 rfl rfl ?_
  refine a_bipush (pc := 5) (v := 6) dX7_bits_5 (by decide) ?_
  refine a_icmp_ge (pc := 7) (tgt := 24) dX7_bits_7 (by decide) (fun c_7 => ?_) (fun c_7 => ?_)
  · exact absurd c_7 (by decide)
  · refine a_iload_n (pc := 10) dX7_bits_10 rfl rfl ?_
    refine a_iload_n (pc := 11) dX7_bits_11 rfl rfl ?_
    refine a_iload_n (pc := 12) dX7_bits_12 rfl rfl ?_
    refine a_ishr (pc := 13) dX7_bits_13 ?_
    refine a_iconst (pc := 14) (v := 1) dX7_bits_14 (by decide) ?_
    refine a_iand (pc := 15) dX7_bits_15 ?_
    refine a_iadd (pc := 16) dX7_bits_16 ?_
    refine a_istore_n (pc := 17) (al' := [some (.int _), some (.int _), some (.int _)]) dX7_bits_17 rfl (by decide) rfl rfl ?_
    refine a_iinc (pc := 18) (v := 1) (al' := [some (.int _), some (.int _), some (.int _)]) dX7_bits_18 rfl (by decide) (by decide) rfl rfl ?_
    refine a_goto (pc := 21) (tgt := 4) dX7_bits_21 (by decide) ?_
    refine a_iload_n (pc := 4) dX7_bits_4 rfl rfl ?_
    refine a_bipush (pc := 5) (v := 6) dX7_bits_5 (by decide) ?_
    refine a_icmp_ge (pc := 7) (tgt := 24) dX7_bits_7 (by decide) (fun c_7 => ?_) (fun c_7 => ?_)
    · exact absurd c_7 (by decide)
    · refine a_iload_n (pc := 10) dX7_bits_10 rfl rfl ?_
      refine a_iload_n (pc := 11) dX7_bits_11 rfl rfl ?_
      refine a_iload_n (pc := 12) dX7_bits_12 rfl rfl ?_
      refine a_ishr (pc := 13) dX7_bits_13 ?_
      refine a_iconst (pc := 14) (v := 1) dX7_bits_14 (by decide) ?_
      refine a_iand (pc := 15) dX7_bits_15 ?_
      refine a_iadd (pc := 16) dX7_bits_16 ?_
      refine a_istore_n (pc := 17) (al' := [some (.int _), some (.int _), some (.int _)]) dX7_bits_17 rfl (by decide) rfl rfl ?_
      refine a_iinc (pc := 18) (v := 2) (al' := [some (.int _), some (.int _), some (.int _)]) dX7_bits_18 rfl (by decide) (by decide) rfl rfl ?_
      refine a_goto (pc := 21) (tgt := 4) dX7_bits_21 (by decide) ?_
      refine a_iload_n (pc := 4) dX7_bits_4 rfl rfl ?_
      refine a_bipush (pc := 5) (v := 6) dX7_bits_5 (by decide) ?_
      refine a_icmp_ge (pc := 7) (tgt := 24) dX7_bits_7 (by decide) (fun c_7 => ?_) (fun c_7 => ?_)
      · exact absurd c_7 (by decide)
      · refine a_iload_n (pc := 10) dX7_bits_10 rfl rfl ?_
        refine a_iload_n (pc := 11) dX7_bits_11 rfl rfl ?_
        refine a_iload_n (pc := 12) dX7_bits_12 rfl rfl ?_
        refine a_ishr (pc := 13) dX7_bits_13 ?_
        refine a_iconst (pc := 14) (v := 1) dX7_bits_14 (by decide) ?_
        refine a_iand (pc := 15) dX7_bits_15 ?_
        refine a_iadd (pc := 16) dX7_bits_16 ?_
        refine a_istore_n (pc := 17) (al' := [some (.int _), some (.int _), some (.int _)]) dX7_bits_17 rfl (by decide) rfl rfl ?_
        refine a_iinc (pc := 18) (v := 3) (al' := [some (.int _), some (.int _), some (.int _)]) dX7_bits_18 rfl (by decide) (by decide) rfl rfl ?_
        refine a_goto (pc := 21) (tgt := 4) dX7_bits_21 (by decide) ?_
        refine a_iload_n (pc := 4) dX7_bits_4 rfl rfl ?_
        refine a_bipush (pc := 5) (v := 6) dX7_bits_5 (by decide) ?_
        refine a_icmp_ge (pc := 7) (tgt := 24) dX7_bits_7 (by decide) (fun c_7 => ?_) (fun c_7 => ?_)
        · exact absurd c_7 (by decide)
        · refine a_iload_n (pc := 10) dX7_bits_10 rfl rfl ?_
          refine a_iload_n (pc := 11) dX7_bits_11 rfl rfl ?_
          refine a_iload_n (pc := 12) dX7_bits_12 rfl rfl ?_
          refine a_ishr (pc := 13) dX7_bits_13 ?_
          refine a_iconst (pc := 14) (v := 1) dX7_bits_14 (by decide) ?_
          refine a_iand (pc := 15) dX7_bits_15 ?_
          refine a_iadd (pc := 16) dX7_bits_16 ?_
          refine a_istore_n (pc := 17) (al' := [some (.int _), some (.int _), some (.int _)]) dX7_bits_17 rfl (by decide) rfl rfl ?_
          refine a_iinc (pc := 18) (v := 4) (al' := [some (.int _), some (.int _), some (.int _)]) dX7_bits_18 rfl (by decide) (by decide) rfl rfl ?_
          refine a_goto (pc := 21) (tgt := 4) dX7_bits_21 (by decide) ?_
          refine a_iload_n (pc := 4) dX7_bits_4 rfl rfl ?_
          refine a_bipush (pc := 5) (v := 6) dX7_bits_5 (by decide) ?_
          refine a_icmp_ge (pc := 7) (tgt := 24) dX7_bits_7 (by decide) (fun c_7 => ?_) (fun c_7 => ?_)
          · exact absurd c_7 (by decide)
          · refine a_iload_n (pc := 10) dX7_bits_10 rfl rfl ?_
            refine a_iload_n (pc := 11) dX7_bits_11 rfl rfl ?_
            refine a_iload_n (pc := 12) dX7_bits_12 rfl rfl ?_
            refine a_ishr (pc := 13) dX7_bits_13 ?_
            refine a_iconst (pc := 14) (v := 1) dX7_bits_14 (by decide) ?_
            refine a_iand (pc := 15) dX7_bits_15 ?_
            refine a_iadd (pc := 16) dX7_bits_16 ?_
            refine a_istore_n (pc := 17) (al' := [some (.int _), some (.int _), some (.int _)]) dX7_bits_17 rfl (by decide) rfl rfl ?_
            refine a_iinc (pc := 18) (v := 5) (al' := [some (.int _), some (.int _), some (.int _)]) dX7_bits_18 rfl (by decide) (by decide) rfl rfl ?_
            refine a_goto (pc := 21) (tgt := 4) dX7_bits_21 (by decide) ?_
            refine a_iload_n (pc := 4) dX7_bits_4 rfl rfl ?_
            refine a_bipush (pc := 5) (v := 6) dX7_bits_5 (by decide) ?_
            refine a_icmp_ge (pc := 7) (tgt := 24) dX7_bits_7 (by decide) (fun c_7 => ?_) (fun c_7 => ?_)
            · exact absurd c_7 (by decide)
            · refine a_iload_n (pc := 10) dX7_bits_10 rfl rfl ?_
              refine a_iload_n (pc := 11) dX7_bits_11 rfl rfl ?_
              refine a_iload_n (pc := 12) dX7_bits_12 rfl rfl ?_
              refine a_ishr (pc := 13) dX7_bits_13 ?_
              refine a_iconst (pc := 14) (v := 1) dX7_bits_14 (by decide) ?_
              refine a_iand (pc := 15) dX7_bits_15 ?_
              refine a_iadd (pc := 16) dX7_bits_16 ?_
              refine a_istore_n (pc := 17) (al' := [some (.int _), some (.int _), some (.int _)]) dX7_bits_17 rfl (by decide) rfl rfl ?_
              refine a_iinc (pc := 18) (v := 6) (al' := [some (.int _), some (.int _), some (.int _)]) dX7_bits_18 rfl (by decide) (by decide) rfl rfl ?_
              refine a_goto (pc := 21) (tgt := 4) dX7_bits_21 (by decide) ?_
              refine a_iload_n (pc := 4) dX7_bits_4 rfl rfl ?_
              refine a_bipush (pc := 5) (v := 6) dX7_bits_5 (by decide) ?_
              refine a_icmp_ge (pc := 7) (tgt := 24) dX7_bits_7 (by decide) (fun c_7 => ?_) (fun c_7 => ?_)
              · refine a_iload_n (pc := 24) dX7_bits_24 rfl rfl ?_
                refine a_iret (pc := 25) rfl dX7_bits_25 ?_
                refine ⟨?_, rfl⟩
                clear c_7
                revert hm m
                decide +kernel
              · exact absurd c_7 (by decide)

set_option maxHeartbeats 4000000 in
set_option maxRecDepth 100000 in
theorem c_X7_drawn {ν : Mem} {r i : Nat} {k : Int32} (hr : r < 3) : Con shM mX7_drawn [.ref 0, .int (nI r), .int (nI i), .int k] ν (fun q u => q = drnF (ν 2 (440 * r + 428)) (nI i) k ∧ ν = u) := by
  have m0 : shM[0]? = some (7, 18, [none, some 1, none, none, none, none, none, some 2, some 3, none, none, some 4, none, none, some 5, some 6, some 7, some 8]) := rfl
  have m1 : shM[1]? = some (100, 200, []) := rfl
  have m2 : shM[2]? = some (100, 1320, []) := rfl
  have m3 : shM[3]? = some (100, 1760, []) := rfl
  have m4 : shM[4]? = some (100, 4, []) := rfl
  have m5 : shM[5]? = some (100, 6, []) := rfl
  have m6 : shM[6]? = some (100, 6, []) := rfl
  have m7 : shM[7]? = some (100, 6, []) := rfl
  have m8 : shM[8]? = some (100, 6, []) := rfl
  refine Con.ofAW (al0 := [some (.ref 0), some (.int (nI r)), some (.int (nI i)), some (.int k), none, none]) (by decide) rfl (Nat.le_of_ble_eq_true rfl) rfl ?_
  refine a_ldc2 (pc := 0) dX7_drawn_0 kc_X7_126 ?_
  refine a_aload_n (pc := 3) dX7_drawn_3 rfl rfl ?_
  refine a_getr (pc := 4) fl_X7_13 (by assumption) (by decide) (by rfl) dX7_drawn_4 ?_
  refine a_sipush (pc := 7) (v := 440) dX7_drawn_7 (by decide) ?_
  refine a_iload_n (pc := 10) dX7_drawn_10 rfl rfl ?_
  refine a_imulN (pc := 11) (a := 440) (b := _) rfl rfl dX7_drawn_11 ?_
  refine a_sipush (pc := 12) (v := 428) dX7_drawn_12 (by decide) ?_
  refine a_iaddN (pc := 15) (a := _) (b := 428) rfl rfl dX7_drawn_15 ?_
  refine a_iald (pc := 16)  (by assumption) rfl (by omega) (by decide) dX7_drawn_16 ?_
  refine a_i2l (pc := 17) dX7_drawn_17 ?_
  refine a_lmul (pc := 18) dX7_drawn_18 ?_
  refine a_ldc2 (pc := 19) dX7_drawn_19 kc_X7_128 ?_
  refine a_iload_n (pc := 22) dX7_drawn_22 rfl rfl ?_
  refine a_i2l (pc := 23) dX7_drawn_23 ?_
  refine a_lmul (pc := 24) dX7_drawn_24 ?_
  refine a_ladd (pc := 25) dX7_drawn_25 ?_
  refine a_ldc2 (pc := 26) dX7_drawn_26 kc_X7_130 ?_
  refine a_iload_n (pc := 29) dX7_drawn_29 rfl rfl ?_
  refine a_i2l (pc := 30) dX7_drawn_30 ?_
  refine a_lmul (pc := 31) dX7_drawn_31 ?_
  refine a_ladd (pc := 32) dX7_drawn_32 ?_
  refine a_lconst (pc := 33) (v := 1) dX7_drawn_33 (by decide) ?_
  refine a_ladd (pc := 34) dX7_drawn_34 ?_
  refine a_lstore (pc := 35) (al' := [some (.ref _), some (.int _), some (.int _), some (.int _), some (.long _), none]) dX7_drawn_35 (by decide) rfl rfl ?_
  refine a_lload (pc := 37) dX7_drawn_37 rfl ?_
  refine a_lload (pc := 39) dX7_drawn_39 rfl ?_
  refine a_lmul (pc := 41) dX7_drawn_41 ?_
  refine a_ldc2 (pc := 42) dX7_drawn_42 kc_X7_132 ?_
  refine a_lrem (pc := 45) dX7_drawn_45 (by decide) ?_
  refine a_l2i (pc := 46) dX7_drawn_46 ?_
  refine a_iret (pc := 47) rfl dX7_drawn_47 ?_
  exact ⟨rfl, rfl⟩

def wtsF (f : Nat → Int32) (b i : Nat) : Nat → Int32 := upd (upd f (b + 70 * i + 2) (remF (drnF (f (b + 428)) (nI i) (f (b + 70 * i + 7))) (f (b + 70 * i)))) (b + 70 * i + 7) (f (b + 70 * i + 7) + 1)
set_option maxHeartbeats 4000000 in
set_option maxRecDepth 100000 in
theorem c_X7_waits {ν : Mem} {r i : Nat} (hr : r < 3) (hi : i < 6) (hw : ¬ ν 2 (440 * r + 70 * i) = 0) : Con shM mX7_waits [.ref 0, .int (nI r), .int (nI i)] ν (fun _ u => u = upA ν 2 (wtsF (ν 2) (440 * r) i)) := by
  have m0 : shM[0]? = some (7, 18, [none, some 1, none, none, none, none, none, some 2, some 3, none, none, some 4, none, none, some 5, some 6, some 7, some 8]) := rfl
  have m1 : shM[1]? = some (100, 200, []) := rfl
  have m2 : shM[2]? = some (100, 1320, []) := rfl
  have m3 : shM[3]? = some (100, 1760, []) := rfl
  have m4 : shM[4]? = some (100, 4, []) := rfl
  have m5 : shM[5]? = some (100, 6, []) := rfl
  have m6 : shM[6]? = some (100, 6, []) := rfl
  have m7 : shM[7]? = some (100, 6, []) := rfl
  have m8 : shM[8]? = some (100, 6, []) := rfl
  refine Con.ofAW (al0 := [some (.ref 0), some (.int (nI r)), some (.int (nI i)), none]) (by decide) rfl (Nat.le_of_ble_eq_true rfl) rfl ?_
  refine a_iload_n (pc := 0) dX7_waits_0 rfl rfl ?_
  refine a_iload_n (pc := 1) dX7_waits_1 rfl rfl ?_
  refine a_callS2 (pc := 2) cs_X7_52 ⟨(Nat.le_of_ble_eq_true rfl), (Nat.le_of_ble_eq_true rfl)⟩ (Nat.le_of_ble_eq_true rfl) dX7_waits_2 rfl c_X7_at ?_
  rintro r_ u ⟨rfl, rfl⟩
  refine a_istore_n (pc := 5) (al' := [some (.ref _), some (.int _), some (.int _), some (.int _)]) dX7_waits_5 rfl (by decide) rfl rfl ?_
  refine a_aload_n (pc := 6) dX7_waits_6 rfl rfl ?_
  refine a_getr (pc := 7) fl_X7_13 (by assumption) (by decide) (by rfl) dX7_waits_7 ?_
  refine a_iload_n (pc := 10) dX7_waits_10 rfl rfl ?_
  refine a_iconst (pc := 11) (v := 2) dX7_waits_11 (by decide) ?_
  refine a_iaddN (pc := 12) (a := _) (b := 2) rfl rfl dX7_waits_12 ?_
  refine a_aload_n (pc := 13) dX7_waits_13 rfl rfl ?_
  refine a_iload_n (pc := 14) dX7_waits_14 rfl rfl ?_
  refine a_iload_n (pc := 15) dX7_waits_15 rfl rfl ?_
  refine a_aload_n (pc := 16) dX7_waits_16 rfl rfl ?_
  refine a_getr (pc := 17) fl_X7_13 (by assumption) (by decide) (by rfl) dX7_waits_17 ?_
  refine a_iload_n (pc := 20) dX7_waits_20 rfl rfl ?_
  refine a_bipush (pc := 21) (v := 7) dX7_waits_21 (by decide) ?_
  refine a_iaddN (pc := 23) (a := _) (b := 7) rfl rfl dX7_waits_23 ?_
  refine a_iald (pc := 24)  (by assumption) rfl (by omega) (by decide) dX7_waits_24 ?_
  refine a_callI3 (pc := 25) ck_X7_134 ⟨(Nat.le_of_ble_eq_true rfl), (Nat.le_of_ble_eq_true rfl)⟩ (by assumption) (by decide) (Nat.le_of_ble_eq_true rfl) dX7_waits_25 rfl (c_X7_drawn hr) ?_
  rintro r_ u ⟨rfl, rfl⟩
  refine a_aload_n (pc := 28) dX7_waits_28 rfl rfl ?_
  refine a_getr (pc := 29) fl_X7_13 (by assumption) (by decide) (by rfl) dX7_waits_29 ?_
  refine a_iload_n (pc := 32) dX7_waits_32 rfl rfl ?_
  refine a_iconst (pc := 33) (v := 0) dX7_waits_33 (by decide) ?_
  refine a_iaddN (pc := 34) (a := _) (b := 0) rfl rfl dX7_waits_34 ?_
  refine a_iald (pc := 35)  (by assumption) rfl (by omega) (by decide) dX7_waits_35 ?_
  refine a_irem (pc := 36) dX7_waits_36 hw ?_
  refine a_iast (pc := 37)  (by assumption) rfl (by omega) (by decide) dX7_waits_37 ?_
  refine a_aload_n (pc := 38) dX7_waits_38 rfl rfl ?_
  refine a_getr (pc := 39) fl_X7_13 (by assumption) (by decide) (by rfl) dX7_waits_39 ?_
  refine a_iload_n (pc := 42) dX7_waits_42 rfl rfl ?_
  refine a_bipush (pc := 43) (v := 7) dX7_waits_43 (by decide) ?_
  refine a_iaddN (pc := 45) (a := _) (b := 7) rfl rfl dX7_waits_45 ?_
  refine a_dup2 (pc := 46) dX7_waits_46 rfl rfl ?_
  refine a_iald (pc := 47)  (by assumption) rfl (by omega) (by decide) dX7_waits_47 ?_
  refine a_iconst (pc := 48) (v := 1) dX7_waits_48 (by decide) ?_
  refine a_iadd (pc := 49) dX7_waits_49 ?_
  refine a_iast (pc := 50)  (by assumption) rfl (by omega) (by decide) dX7_waits_50 ?_
  refine a_vret (pc := 51) rfl dX7_waits_51 ?_
  simp [wtsF, remF, up2_eq, upA_upA, upA_ap, up2_upA, upd_ap]

def cmsF (f : Nat → Int32) (b i : Nat) : Nat → Int32 := if f (b + 70 * i + 8) ≤ 0 then upd (upd (upd f (b + 70 * i + 28) 0) (b + 70 * i + 29) 0) (b + 70 * i + 26) 0 else wtsF (upd (upd (upd f (b + 70 * i + 28) 0) (b + 70 * i + 29) 0) (b + 70 * i + 26) 0) b i
set_option maxHeartbeats 4000000 in
set_option maxRecDepth 100000 in
theorem c_X7_comes {ν : Mem} {r i : Nat} (hr : r < 3) (hi : i < 6) (hw : ¬ ν 2 (440 * r + 70 * i) = 0) : Con shM mX7_comes [.ref 0, .int (nI r), .int (nI i)] ν (fun _ u => u = upA ν 2 (cmsF (ν 2) (440 * r) i)) := by
  have m0 : shM[0]? = some (7, 18, [none, some 1, none, none, none, none, none, some 2, some 3, none, none, some 4, none, none, some 5, some 6, some 7, some 8]) := rfl
  have m1 : shM[1]? = some (100, 200, []) := rfl
  have m2 : shM[2]? = some (100, 1320, []) := rfl
  have m3 : shM[3]? = some (100, 1760, []) := rfl
  have m4 : shM[4]? = some (100, 4, []) := rfl
  have m5 : shM[5]? = some (100, 6, []) := rfl
  have m6 : shM[6]? = some (100, 6, []) := rfl
  have m7 : shM[7]? = some (100, 6, []) := rfl
  have m8 : shM[8]? = some (100, 6, []) := rfl
  refine Con.ofAW (al0 := [some (.ref 0), some (.int (nI r)), some (.int (nI i)), none]) (by decide) rfl (Nat.le_of_ble_eq_true rfl) rfl ?_
  refine a_iload_n (pc := 0) dX7_comes_0 rfl rfl ?_
  refine a_iload_n (pc := 1) dX7_comes_1 rfl rfl ?_
  refine a_callS2 (pc := 2) cs_X7_52 ⟨(Nat.le_of_ble_eq_true rfl), (Nat.le_of_ble_eq_true rfl)⟩ (Nat.le_of_ble_eq_true rfl) dX7_comes_2 rfl c_X7_at ?_
  rintro r_ u ⟨rfl, rfl⟩
  refine a_istore_n (pc := 5) (al' := [some (.ref _), some (.int _), some (.int _), some (.int _)]) dX7_comes_5 rfl (by decide) rfl rfl ?_
  refine a_aload_n (pc := 6) dX7_comes_6 rfl rfl ?_
  refine a_getr (pc := 7) fl_X7_13 (by assumption) (by decide) (by rfl) dX7_comes_7 ?_
  refine a_iload_n (pc := 10) dX7_comes_10 rfl rfl ?_
  refine a_bipush (pc := 11) (v := 28) dX7_comes_11 (by decide) ?_
  refine a_iaddN (pc := 13) (a := _) (b := 28) rfl rfl dX7_comes_13 ?_
  refine a_iconst (pc := 14) (v := 0) dX7_comes_14 (by decide) ?_
  refine a_iast (pc := 15)  (by assumption) rfl (by omega) (by decide) dX7_comes_15 ?_
  refine a_aload_n (pc := 16) dX7_comes_16 rfl rfl ?_
  refine a_getr (pc := 17) fl_X7_13 (by assumption) (by decide) (by rfl) dX7_comes_17 ?_
  refine a_iload_n (pc := 20) dX7_comes_20 rfl rfl ?_
  refine a_bipush (pc := 21) (v := 29) dX7_comes_21 (by decide) ?_
  refine a_iaddN (pc := 23) (a := _) (b := 29) rfl rfl dX7_comes_23 ?_
  refine a_iconst (pc := 24) (v := 0) dX7_comes_24 (by decide) ?_
  refine a_iast (pc := 25)  (by assumption) rfl (by omega) (by decide) dX7_comes_25 ?_
  refine a_aload_n (pc := 26) dX7_comes_26 rfl rfl ?_
  refine a_getr (pc := 27) fl_X7_13 (by assumption) (by decide) (by rfl) dX7_comes_27 ?_
  refine a_iload_n (pc := 30) dX7_comes_30 rfl rfl ?_
  refine a_bipush (pc := 31) (v := 26) dX7_comes_31 (by decide) ?_
  refine a_iaddN (pc := 33) (a := _) (b := 26) rfl rfl dX7_comes_33 ?_
  refine a_iconst (pc := 34) (v := 0) dX7_comes_34 (by decide) ?_
  refine a_iast (pc := 35)  (by assumption) rfl (by omega) (by decide) dX7_comes_35 ?_
  refine a_aload_n (pc := 36) dX7_comes_36 rfl rfl ?_
  refine a_getr (pc := 37) fl_X7_13 (by assumption) (by decide) (by rfl) dX7_comes_37 ?_
  refine a_iload_n (pc := 40) dX7_comes_40 rfl rfl ?_
  refine a_bipush (pc := 41) (v := 8) dX7_comes_41 (by decide) ?_
  refine a_iaddN (pc := 43) (a := _) (b := 8) rfl rfl dX7_comes_43 ?_
  refine a_iald (pc := 44)  (by assumption) rfl (by omega) (by decide) dX7_comes_44 ?_
  refine a_if_le (pc := 45) (tgt := 54) dX7_comes_45 (by decide) (fun c_45 => ?_) (fun c_45 => ?_)
  · refine a_vret (pc := 54) rfl dX7_comes_54 ?_
    simp [up2_eq, upA_upA, upA_ap, up2_upA, upd_ap, -Int32.not_lt, -Int32.not_le, -Nat.not_lt] at c_45
    simp [cmsF, up2_eq, upA_upA, upA_ap, up2_upA, upd_ap, c_45, -Int32.not_lt, -Int32.not_le, -Nat.not_lt]
  · refine a_aload_n (pc := 48) dX7_comes_48 rfl rfl ?_
    refine a_iload_n (pc := 49) dX7_comes_49 rfl rfl ?_
    refine a_iload_n (pc := 50) dX7_comes_50 rfl rfl ?_
    refine a_callV2 (pc := 51) ck_X7_138 ⟨(Nat.le_of_ble_eq_true rfl), (Nat.le_of_ble_eq_true rfl)⟩ (by assumption) (by decide) (Nat.le_of_ble_eq_true rfl) dX7_comes_51 rfl (c_X7_waits hr hi (by simp [up2_eq, upA_upA, upA_ap, up2_upA, upd_ap]; exact hw)) ?_
    rintro u rfl
    refine a_vret (pc := 54) rfl dX7_comes_54 ?_
    simp [up2_eq, upA_upA, upA_ap, up2_upA, upd_ap, -Int32.not_lt, -Int32.not_le, -Nat.not_lt] at c_45
    simp [cmsF, up2_eq, upA_upA, upA_ap, up2_upA, upd_ap, c_45, -Int32.not_lt, -Int32.not_le, -Nat.not_lt]

def shfF (f : Nat → Int32) (a n : Nat) : Nat → Int32 := fun j => if a ≤ j ∧ j < a + 2 * n then f (j + 2) else f j
def ovsF (f : Nat → Int32) (b i n : Nat) (L : Int32) : Nat → Int32 := cmsF (upd (upd (shfF (upd f (b + 70 * i + 8) (nI n)) (b + 70 * i + 9) n) (b + 70 * i + 1) 0) (b + 70 * i) L) b i
set_option maxHeartbeats 4000000 in
set_option maxRecDepth 100000 in
theorem l_X7_overs {ν0 : Mem} {r i n : Nat} (hr : r < 3) (hi : i < 6) (hn : n < 6) (hc : ν0 2 (440 * r + 70 * i + 8) = nI n) {Q : Int32 → Mem → Prop} (hQ : AW shM mX7_overs 70 [some (.ref 0), some (.int (nI r)), some (.int (nI i)), some (.int (nI (440 * r + 70 * i))), some (.int (nI (2 * n)))] [] (upA ν0 2 (shfF (ν0 2) (440 * r + 70 * i + 9) n)) Q) : ∀ d k : Nat, k + d = 2 * n → ∀ ν : Mem, ν = upA ν0 2 (fun j => if 440 * r + 70 * i + 9 ≤ j ∧ j < 440 * r + 70 * i + 9 + k then ν0 2 (j + 2) else ν0 2 j) → AW shM mX7_overs 22 [some (.ref 0), some (.int (nI r)), some (.int (nI i)), some (.int (nI (440 * r + 70 * i))), some (.int (nI k))] [] ν Q := by
  have m0 : shM[0]? = some (7, 18, [none, some 1, none, none, none, none, none, some 2, some 3, none, none, some 4, none, none, some 5, some 6, some 7, some 8]) := rfl
  have m1 : shM[1]? = some (100, 200, []) := rfl
  have m2 : shM[2]? = some (100, 1320, []) := rfl
  have m3 : shM[3]? = some (100, 1760, []) := rfl
  have m4 : shM[4]? = some (100, 4, []) := rfl
  have m5 : shM[5]? = some (100, 6, []) := rfl
  have m6 : shM[6]? = some (100, 6, []) := rfl
  have m7 : shM[7]? = some (100, 6, []) := rfl
  have m8 : shM[8]? = some (100, 6, []) := rfl
  intro d
  induction d with
  | zero =>
    intro k hk ν hν
    refine a_iload (pc := 22) dX7_overs_22 rfl ?_
    refine a_iconst (pc := 24) (v := 2) dX7_overs_24 (by decide) ?_
    refine a_aload_n (pc := 25) dX7_overs_25 rfl rfl ?_
    refine a_getr (pc := 26) fl_X7_13 (by assumption) (by decide) (by rfl) dX7_overs_26 ?_
    refine a_iload_n (pc := 29) dX7_overs_29 rfl rfl ?_
    refine a_bipush (pc := 30) (v := 8) dX7_overs_30 (by decide) ?_
    refine a_iaddN (pc := 32) (a := _) (b := 8) rfl rfl dX7_overs_32 ?_
    refine a_iald (pc := 33)  (by assumption) rfl (by omega) (by decide) dX7_overs_33 ?_
    refine a_top (y := nI n) (show ν 2 (440 * r + 70 * i + 8) = nI n by rw [hν, upA_at]; exact (if_neg (by omega)).trans hc) ?_
    refine a_imulN (pc := 34) (a := 2) (b := _) rfl rfl dX7_overs_34 ?_
    refine a_icmp_ge (pc := 35) (tgt := 70) dX7_overs_35 (by decide) (fun c_35 => ?_) (fun c_35 => ?_)
    · refine AW.cast hQ rfl (by rw [show k = 2 * n by omega]) rfl ?_
      rw [hν, show k = 2 * n by omega]; rfl
    · refine a_aload_n (pc := 38) dX7_overs_38 rfl rfl ?_
      refine a_getr (pc := 39) fl_X7_13 (by assumption) (by decide) (by rfl) dX7_overs_39 ?_
      refine a_iload_n (pc := 42) dX7_overs_42 rfl rfl ?_
      refine a_bipush (pc := 43) (v := 9) dX7_overs_43 (by decide) ?_
      refine a_iaddN (pc := 45) (a := _) (b := 9) rfl rfl dX7_overs_45 ?_
      refine a_iload (pc := 46) dX7_overs_46 rfl ?_
      refine a_iaddN (pc := 48) (a := _) (b := _) rfl rfl dX7_overs_48 ?_
      refine a_aload_n (pc := 49) dX7_overs_49 rfl rfl ?_
      refine a_getr (pc := 50) fl_X7_13 (by assumption) (by decide) (by rfl) dX7_overs_50 ?_
      refine a_iload_n (pc := 53) dX7_overs_53 rfl rfl ?_
      refine a_bipush (pc := 54) (v := 9) dX7_overs_54 (by decide) ?_
      refine a_iaddN (pc := 56) (a := _) (b := 9) rfl rfl dX7_overs_56 ?_
      refine a_iload (pc := 57) dX7_overs_57 rfl ?_
      refine a_iaddN (pc := 59) (a := _) (b := _) rfl rfl dX7_overs_59 ?_
      refine a_iconst (pc := 60) (v := 2) dX7_overs_60 (by decide) ?_
      refine a_iaddN (pc := 61) (a := _) (b := 2) rfl rfl dX7_overs_61 ?_
      refine a_iald (pc := 62)  (by assumption) rfl (by omega) (by decide) dX7_overs_62 ?_
      refine a_iast (pc := 63)  (by assumption) rfl (by omega) (by decide) dX7_overs_63 ?_
      refine a_iincN (pc := 64) (m := 1) (al' := [some (.ref _), some (.int _), some (.int _), some (.int _), some (.int _)]) dX7_overs_64 rfl (by decide) rfl rfl ?_
      refine a_goto (pc := 67) (tgt := 22) dX7_overs_67 (by decide) ?_
      exact absurd c_35 (fun h => h (nI_le (a := 2 * n) (b := k) (by omega) (by omega)))
  | succ d ih =>
    intro k hk ν hν
    refine a_iload (pc := 22) dX7_overs_22 rfl ?_
    refine a_iconst (pc := 24) (v := 2) dX7_overs_24 (by decide) ?_
    refine a_aload_n (pc := 25) dX7_overs_25 rfl rfl ?_
    refine a_getr (pc := 26) fl_X7_13 (by assumption) (by decide) (by rfl) dX7_overs_26 ?_
    refine a_iload_n (pc := 29) dX7_overs_29 rfl rfl ?_
    refine a_bipush (pc := 30) (v := 8) dX7_overs_30 (by decide) ?_
    refine a_iaddN (pc := 32) (a := _) (b := 8) rfl rfl dX7_overs_32 ?_
    refine a_iald (pc := 33)  (by assumption) rfl (by omega) (by decide) dX7_overs_33 ?_
    refine a_top (y := nI n) (show ν 2 (440 * r + 70 * i + 8) = nI n by rw [hν, upA_at]; exact (if_neg (by omega)).trans hc) ?_
    refine a_imulN (pc := 34) (a := 2) (b := _) rfl rfl dX7_overs_34 ?_
    refine a_icmp_ge (pc := 35) (tgt := 70) dX7_overs_35 (by decide) (fun c_35 => ?_) (fun c_35 => ?_)
    · exact absurd c_35 (nI_ge (a := k) (b := 2 * n) (by omega) (by omega))
    · refine a_aload_n (pc := 38) dX7_overs_38 rfl rfl ?_
      refine a_getr (pc := 39) fl_X7_13 (by assumption) (by decide) (by rfl) dX7_overs_39 ?_
      refine a_iload_n (pc := 42) dX7_overs_42 rfl rfl ?_
      refine a_bipush (pc := 43) (v := 9) dX7_overs_43 (by decide) ?_
      refine a_iaddN (pc := 45) (a := _) (b := 9) rfl rfl dX7_overs_45 ?_
      refine a_iload (pc := 46) dX7_overs_46 rfl ?_
      refine a_iaddN (pc := 48) (a := _) (b := _) rfl rfl dX7_overs_48 ?_
      refine a_aload_n (pc := 49) dX7_overs_49 rfl rfl ?_
      refine a_getr (pc := 50) fl_X7_13 (by assumption) (by decide) (by rfl) dX7_overs_50 ?_
      refine a_iload_n (pc := 53) dX7_overs_53 rfl rfl ?_
      refine a_bipush (pc := 54) (v := 9) dX7_overs_54 (by decide) ?_
      refine a_iaddN (pc := 56) (a := _) (b := 9) rfl rfl dX7_overs_56 ?_
      refine a_iload (pc := 57) dX7_overs_57 rfl ?_
      refine a_iaddN (pc := 59) (a := _) (b := _) rfl rfl dX7_overs_59 ?_
      refine a_iconst (pc := 60) (v := 2) dX7_overs_60 (by decide) ?_
      refine a_iaddN (pc := 61) (a := _) (b := 2) rfl rfl dX7_overs_61 ?_
      refine a_iald (pc := 62)  (by assumption) rfl (by omega) (by decide) dX7_overs_62 ?_
      refine a_iast (pc := 63)  (by assumption) rfl (by omega) (by decide) dX7_overs_63 ?_
      refine a_iincN (pc := 64) (m := 1) (al' := [some (.ref _), some (.int _), some (.int _), some (.int _), some (.int _)]) dX7_overs_64 rfl (by decide) rfl rfl ?_
      refine a_goto (pc := 67) (tgt := 22) dX7_overs_67 (by decide) ?_
      refine ih (k + 1) (by omega) _ ?_
      rw [hν, up2_upA]
      congr 1
      funext j
      simp only [upd_ap, upA_at]
      rw [if_neg (show ¬ (440 * r + 70 * i + 9 ≤ 440 * r + 70 * i + 9 + k + 2 ∧ 440 * r + 70 * i + 9 + k + 2 < 440 * r + 70 * i + 9 + k) by omega)]
      by_cases e1 : j = 440 * r + 70 * i + 9 + k
      · rw [if_pos e1, if_pos (by omega), e1]
      · rw [if_neg e1]
        by_cases e2 : 440 * r + 70 * i + 9 ≤ j ∧ j < 440 * r + 70 * i + 9 + k
        · rw [if_pos e2, if_pos (by omega)]
        · rw [if_neg e2, if_neg (by omega)]
set_option maxHeartbeats 4000000 in
set_option maxRecDepth 100000 in
theorem c_X7_overs {ν : Mem} {r i n : Nat} (hr : r < 3) (hi : i < 6) (hn : n < 6) (hc : ν 2 (440 * r + 70 * i + 8) = nI (n + 1)) (hL : ¬ ν 0 3 = 0) : Con shM mX7_overs [.ref 0, .int (nI r), .int (nI i)] ν (fun _ u => u = upA ν 2 (ovsF (ν 2) (440 * r) i n (ν 0 3))) := by
  have m0 : shM[0]? = some (7, 18, [none, some 1, none, none, none, none, none, some 2, some 3, none, none, some 4, none, none, some 5, some 6, some 7, some 8]) := rfl
  have m1 : shM[1]? = some (100, 200, []) := rfl
  have m2 : shM[2]? = some (100, 1320, []) := rfl
  have m3 : shM[3]? = some (100, 1760, []) := rfl
  have m4 : shM[4]? = some (100, 4, []) := rfl
  have m5 : shM[5]? = some (100, 6, []) := rfl
  have m6 : shM[6]? = some (100, 6, []) := rfl
  have m7 : shM[7]? = some (100, 6, []) := rfl
  have m8 : shM[8]? = some (100, 6, []) := rfl
  refine Con.ofAW (al0 := [some (.ref 0), some (.int (nI r)), some (.int (nI i)), none, none]) (by decide) rfl (Nat.le_of_ble_eq_true rfl) rfl ?_
  refine a_iload_n (pc := 0) dX7_overs_0 rfl rfl ?_
  refine a_iload_n (pc := 1) dX7_overs_1 rfl rfl ?_
  refine a_callS2 (pc := 2) cs_X7_52 ⟨(Nat.le_of_ble_eq_true rfl), (Nat.le_of_ble_eq_true rfl)⟩ (Nat.le_of_ble_eq_true rfl) dX7_overs_2 rfl c_X7_at ?_
  rintro r_ u ⟨rfl, rfl⟩
  refine a_istore_n (pc := 5) (al' := [some (.ref _), some (.int _), some (.int _), some (.int _), none]) dX7_overs_5 rfl (by decide) rfl rfl ?_
  refine a_aload_n (pc := 6) dX7_overs_6 rfl rfl ?_
  refine a_getr (pc := 7) fl_X7_13 (by assumption) (by decide) (by rfl) dX7_overs_7 ?_
  refine a_iload_n (pc := 10) dX7_overs_10 rfl rfl ?_
  refine a_bipush (pc := 11) (v := 8) dX7_overs_11 (by decide) ?_
  refine a_iaddN (pc := 13) (a := _) (b := 8) rfl rfl dX7_overs_13 ?_
  refine a_dup2 (pc := 14) dX7_overs_14 rfl rfl ?_
  refine a_iald (pc := 15)  (by assumption) rfl (by omega) (by decide) dX7_overs_15 ?_
  refine a_top (y := nI (n + 1)) hc ?_
  refine a_iconst (pc := 16) (v := 1) dX7_overs_16 (by decide) ?_
  refine a_isubN (pc := 17) (a := _) (b := 1) rfl rfl (Nat.le_add_left 1 n) dX7_overs_17 ?_
  refine a_iast (pc := 18)  (by assumption) rfl (by omega) (by decide) dX7_overs_18 ?_
  refine a_iconst (pc := 19) (v := 0) dX7_overs_19 (by decide) ?_
  refine a_istore (pc := 20) (al' := [some (.ref _), some (.int _), some (.int _), some (.int _), some (.int _)]) dX7_overs_20 (by decide) rfl rfl ?_
  refine l_X7_overs (ν0 := up2 ν 2 (440 * r + 70 * i + 8) (nI n)) (n := n) hr hi hn (by simp [up2_ap]) ?_ (2 * n) 0 (by omega) _ ?_
  · refine a_aload_n (pc := 70) dX7_overs_70 rfl rfl ?_
    refine a_getr (pc := 71) fl_X7_13 (by assumption) (by decide) (by rfl) dX7_overs_71 ?_
    refine a_iload_n (pc := 74) dX7_overs_74 rfl rfl ?_
    refine a_iconst (pc := 75) (v := 1) dX7_overs_75 (by decide) ?_
    refine a_iaddN (pc := 76) (a := _) (b := 1) rfl rfl dX7_overs_76 ?_
    refine a_iconst (pc := 77) (v := 0) dX7_overs_77 (by decide) ?_
    refine a_iast (pc := 78)  (by assumption) rfl (by omega) (by decide) dX7_overs_78 ?_
    refine a_aload_n (pc := 79) dX7_overs_79 rfl rfl ?_
    refine a_getr (pc := 80) fl_X7_13 (by assumption) (by decide) (by rfl) dX7_overs_80 ?_
    refine a_iload_n (pc := 83) dX7_overs_83 rfl rfl ?_
    refine a_iconst (pc := 84) (v := 0) dX7_overs_84 (by decide) ?_
    refine a_iaddN (pc := 85) (a := _) (b := 0) rfl rfl dX7_overs_85 ?_
    refine a_aload_n (pc := 86) dX7_overs_86 rfl rfl ?_
    refine a_geti (pc := 87) fl_X7_59 (by assumption) (by decide) (by rfl) dX7_overs_87 ?_
    refine a_iast (pc := 90)  (by assumption) rfl (by omega) (by decide) dX7_overs_90 ?_
    refine a_aload_n (pc := 91) dX7_overs_91 rfl rfl ?_
    refine a_iload_n (pc := 92) dX7_overs_92 rfl rfl ?_
    refine a_iload_n (pc := 93) dX7_overs_93 rfl rfl ?_
    refine a_callV2 (pc := 94) ck_X7_78 ⟨(Nat.le_of_ble_eq_true rfl), (Nat.le_of_ble_eq_true rfl)⟩ (by assumption) (by decide) (Nat.le_of_ble_eq_true rfl) dX7_overs_94 rfl (c_X7_comes hr hi (by simp [up2_eq, upA_upA, upA_ap, up2_upA, upd_ap]; exact hL)) ?_
    rintro u rfl
    refine a_vret (pc := 97) rfl dX7_overs_97 ?_
    simp [ovsF, up2_eq, upA_upA, upA_ap, up2_upA, upd_ap]
  · simp [up2_eq, upA_upA, upA_ap]
    congr 1; funext j; rw [if_neg (by omega)]

