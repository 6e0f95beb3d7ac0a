/-! the reference: takesOwn, overhears -/
def tk1F (f : Nat → Int32) (b i j : Nat) (sl wd : Int32) : Nat → Int32 := if sl ≤ f (b + 70 * i + 3) then f else upd (upd (upd f (b + 70 * i + 21) (sl + 1)) (b + 70 * i + 22) (nI j)) (b + 70 * i + 23) wd
set_option maxHeartbeats 4000000 in
set_option maxRecDepth 100000 in
theorem c_X7_takesOwn1 {ν : Mem} {r i j : Nat} {sl : Int32} (hr : r < 3) (hi : i < 6) (hj : j < 6) (hk : ν 5 j = 1) : Con shM mX7_takesOwn [.ref 0, .int (nI r), .int (nI i), .int (nI j), .int sl] ν (fun q u => q = 0 ∧ u = upA ν 2 (tk1F (ν 2) (440 * r) i j sl (ν 7 j))) := by
  have m0 : shM[0]? = some (7, 18, [none, some 1, none, none, none, none, none, some 2, some 3, none, none, some 4, none, none, some 5, some 6, some 7, some 8]) := rfl
  have m1 : shM[1]? = some (100, 200, []) := rfl
  have m2 : shM[2]? = some (100, 1320, []) := rfl
  have m3 : shM[3]? = some (100, 1760, []) := rfl
  have m4 : shM[4]? = some (100, 4, []) := rfl
  have m5 : shM[5]? = some (100, 6, []) := rfl
  have m6 : shM[6]? = some (100, 6, []) := rfl
  have m7 : shM[7]? = some (100, 6, []) := rfl
  have m8 : shM[8]? = some (100, 6, []) := rfl
  refine Con.ofAW (al0 := [some (.ref 0), some (.int (nI r)), some (.int (nI i)), some (.int (nI j)), some (.int sl), none, none, none]) (by decide) rfl (Nat.le_of_ble_eq_true rfl) rfl ?_
  refine a_iload_n (pc := 0) dX7_takesOwn_0 rfl rfl ?_
  refine a_iload_n (pc := 1) dX7_takesOwn_1 rfl rfl ?_
  refine a_callS2 (pc := 2) cs_X7_52 ⟨(Nat.le_of_ble_eq_true rfl), (Nat.le_of_ble_eq_true rfl)⟩ (Nat.le_of_ble_eq_true rfl) dX7_takesOwn_2 rfl c_X7_at ?_
  rintro r_ u ⟨rfl, rfl⟩
  refine a_istore (pc := 5) (al' := [some (.ref _), some (.int _), some (.int _), some (.int _), some (.int _), some (.int _), none, none]) dX7_takesOwn_5 (by decide) rfl rfl ?_
  refine a_aload_n (pc := 7) dX7_takesOwn_7 rfl rfl ?_
  refine a_getr (pc := 8) fl_X7_13 (by assumption) (by decide) (by rfl) dX7_takesOwn_8 ?_
  refine a_iload (pc := 11) dX7_takesOwn_11 rfl ?_
  refine a_bipush (pc := 13) (v := 27) dX7_takesOwn_13 (by decide) ?_
  refine a_iaddN (pc := 15) (a := _) (b := 27) rfl rfl dX7_takesOwn_15 ?_
  refine a_iald (pc := 16)  (by assumption) rfl (by omega) (by decide) dX7_takesOwn_16 ?_
  refine a_iload (pc := 17) dX7_takesOwn_17 rfl ?_
  refine a_icmp_ne (pc := 19) (tgt := 26) dX7_takesOwn_19 (by decide) (fun c_19 => ?_) (fun c_19 => ?_)
  · refine a_iconst (pc := 26) (v := 0) dX7_takesOwn_26 (by decide) ?_
    refine a_istore (pc := 27) (al' := [some (.ref _), some (.int _), some (.int _), some (.int _), some (.int _), some (.int _), some (.int _), none]) dX7_takesOwn_27 (by decide) rfl rfl ?_
    refine a_aload_n (pc := 29) dX7_takesOwn_29 rfl rfl ?_
    refine a_getr (pc := 30) fl_X7_22 (by assumption) (by decide) (by rfl) dX7_takesOwn_30 ?_
    refine a_iload_n (pc := 33) dX7_takesOwn_33 rfl rfl ?_
    refine a_iald (pc := 34)  (by assumption) rfl (by omega) (by decide) dX7_takesOwn_34 ?_
    refine a_top (y := 1) (by first | exact hk | (simp [up2_eq, upA_upA, upA_ap, up2_upA, upd_ap]; exact hk)) ?_
    refine a_iconst (pc := 35) (v := 1) dX7_takesOwn_35 (by decide) ?_
    refine a_icmp_ne (pc := 36) (tgt := 98) dX7_takesOwn_36 (by decide) (fun c_36 => ?_) (fun c_36 => ?_)
    · exact absurd c_36 (by decide)
    · refine a_iload (pc := 39) dX7_takesOwn_39 rfl ?_
      refine a_aload_n (pc := 41) dX7_takesOwn_41 rfl rfl ?_
      refine a_getr (pc := 42) fl_X7_13 (by assumption) (by decide) (by rfl) dX7_takesOwn_42 ?_
      refine a_iload (pc := 45) dX7_takesOwn_45 rfl ?_
      refine a_iconst (pc := 47) (v := 3) dX7_takesOwn_47 (by decide) ?_
      refine a_iaddN (pc := 48) (a := _) (b := 3) rfl rfl dX7_takesOwn_48 ?_
      refine a_iald (pc := 49)  (by assumption) rfl (by omega) (by decide) dX7_takesOwn_49 ?_
      refine a_icmp_le (pc := 50) (tgt := 98) dX7_takesOwn_50 (by decide) (fun c_50 => ?_) (fun c_50 => ?_)
      · refine a_aload_n (pc := 98) dX7_takesOwn_98 rfl rfl ?_
        refine a_getr (pc := 99) fl_X7_22 (by assumption) (by decide) (by rfl) dX7_takesOwn_99 ?_
        refine a_iload_n (pc := 102) dX7_takesOwn_102 rfl rfl ?_
        refine a_iald (pc := 103)  (by assumption) rfl (by omega) (by decide) dX7_takesOwn_103 ?_
        refine a_top (y := 1) (by first | exact hk | (simp [up2_eq, upA_upA, upA_ap, up2_upA, upd_ap]; exact hk)) ?_
        refine a_iconst (pc := 104) (v := 2) dX7_takesOwn_104 (by decide) ?_
        refine a_icmp_ne (pc := 105) (tgt := 151) dX7_takesOwn_105 (by decide) (fun c_105 => ?_) (fun c_105 => ?_)
        · refine a_aload_n (pc := 151) dX7_takesOwn_151 rfl rfl ?_
          refine a_getr (pc := 152) fl_X7_22 (by assumption) (by decide) (by rfl) dX7_takesOwn_152 ?_
          refine a_iload_n (pc := 155) dX7_takesOwn_155 rfl rfl ?_
          refine a_iald (pc := 156)  (by assumption) rfl (by omega) (by decide) dX7_takesOwn_156 ?_
          refine a_top (y := 1) (by first | exact hk | (simp [up2_eq, upA_upA, upA_ap, up2_upA, upd_ap]; exact hk)) ?_
          refine a_iconst (pc := 157) (v := 3) dX7_takesOwn_157 (by decide) ?_
          refine a_icmp_ne (pc := 158) (tgt := 326) dX7_takesOwn_158 (by decide) (fun c_158 => ?_) (fun c_158 => ?_)
          · refine a_aload_n (pc := 326) dX7_takesOwn_326 rfl rfl ?_
            refine a_getr (pc := 327) fl_X7_22 (by assumption) (by decide) (by rfl) dX7_takesOwn_327 ?_
            refine a_iload_n (pc := 330) dX7_takesOwn_330 rfl rfl ?_
            refine a_iald (pc := 331)  (by assumption) rfl (by omega) (by decide) dX7_takesOwn_331 ?_
            refine a_top (y := 1) (by first | exact hk | (simp [up2_eq, upA_upA, upA_ap, up2_upA, upd_ap]; exact hk)) ?_
            refine a_iconst (pc := 332) (v := 4) dX7_takesOwn_332 (by decide) ?_
            refine a_icmp_ne (pc := 333) (tgt := 363) dX7_takesOwn_333 (by decide) (fun c_333 => ?_) (fun c_333 => ?_)
            · refine a_iconst (pc := 363) (v := 0) dX7_takesOwn_363 (by decide) ?_
              refine a_zret (pc := 364) rfl (by rfl) dX7_takesOwn_364 ?_
              refine ⟨rfl, ?_⟩
              simp_all [tk1F, up2_eq, upA_upA, upA_ap, up2_upA, upd_ap, upA_self, -Int32.not_lt, -Int32.not_le, -Nat.not_lt]
            · exact absurd c_333 (by decide)
          · exact absurd c_158 (by decide)
        · exact absurd c_105 (by decide)
      · refine a_aload_n (pc := 53) dX7_takesOwn_53 rfl rfl ?_
        refine a_getr (pc := 54) fl_X7_13 (by assumption) (by decide) (by rfl) dX7_takesOwn_54 ?_
        refine a_iload (pc := 57) dX7_takesOwn_57 rfl ?_
        refine a_bipush (pc := 59) (v := 21) dX7_takesOwn_59 (by decide) ?_
        refine a_iaddN (pc := 61) (a := _) (b := 21) rfl rfl dX7_takesOwn_61 ?_
        refine a_iload (pc := 62) dX7_takesOwn_62 rfl ?_
        refine a_iconst (pc := 64) (v := 1) dX7_takesOwn_64 (by decide) ?_
        refine a_iadd (pc := 65) dX7_takesOwn_65 ?_
        refine a_iast (pc := 66)  (by assumption) rfl (by omega) (by decide) dX7_takesOwn_66 ?_
        refine a_aload_n (pc := 67) dX7_takesOwn_67 rfl rfl ?_
        refine a_getr (pc := 68) fl_X7_13 (by assumption) (by decide) (by rfl) dX7_takesOwn_68 ?_
        refine a_iload (pc := 71) dX7_takesOwn_71 rfl ?_
        refine a_bipush (pc := 73) (v := 21) dX7_takesOwn_73 (by decide) ?_
        refine a_iaddN (pc := 75) (a := _) (b := 21) rfl rfl dX7_takesOwn_75 ?_
        refine a_iconst (pc := 76) (v := 1) dX7_takesOwn_76 (by decide) ?_
        refine a_iaddN (pc := 77) (a := _) (b := 1) rfl rfl dX7_takesOwn_77 ?_
        refine a_iload_n (pc := 78) dX7_takesOwn_78 rfl rfl ?_
        refine a_iast (pc := 79)  (by assumption) rfl (by omega) (by decide) dX7_takesOwn_79 ?_
        refine a_aload_n (pc := 80) dX7_takesOwn_80 rfl rfl ?_
        refine a_getr (pc := 81) fl_X7_13 (by assumption) (by decide) (by rfl) dX7_takesOwn_81 ?_
        refine a_iload (pc := 84) dX7_takesOwn_84 rfl ?_
        refine a_bipush (pc := 86) (v := 21) dX7_takesOwn_86 (by decide) ?_
        refine a_iaddN (pc := 88) (a := _) (b := 21) rfl rfl dX7_takesOwn_88 ?_
        refine a_iconst (pc := 89) (v := 2) dX7_takesOwn_89 (by decide) ?_
        refine a_iaddN (pc := 90) (a := _) (b := 2) rfl rfl dX7_takesOwn_90 ?_
        refine a_aload_n (pc := 91) dX7_takesOwn_91 rfl rfl ?_
        refine a_getr (pc := 92) fl_X7_28 (by assumption) (by decide) (by rfl) dX7_takesOwn_92 ?_
        refine a_iload_n (pc := 95) dX7_takesOwn_95 rfl rfl ?_
        refine a_iald (pc := 96)  (by assumption) rfl (by omega) (by decide) dX7_takesOwn_96 ?_
        refine a_iast (pc := 97)  (by assumption) rfl (by omega) (by decide) dX7_takesOwn_97 ?_
        refine a_aload_n (pc := 98) dX7_takesOwn_98 rfl rfl ?_
        refine a_getr (pc := 99) fl_X7_22 (by assumption) (by decide) (by rfl) dX7_takesOwn_99 ?_
        refine a_iload_n (pc := 102) dX7_takesOwn_102 rfl rfl ?_
        refine a_iald (pc := 103)  (by assumption) rfl (by omega) (by decide) dX7_takesOwn_103 ?_
        refine a_top (y := 1) (by first | exact hk | (simp [up2_eq, upA_upA, upA_ap, up2_upA, upd_ap]; exact hk)) ?_
        refine a_iconst (pc := 104) (v := 2) dX7_takesOwn_104 (by decide) ?_
        refine a_icmp_ne (pc := 105) (tgt := 151) dX7_takesOwn_105 (by decide) (fun c_105 => ?_) (fun c_105 => ?_)
        · refine a_aload_n (pc := 151) dX7_takesOwn_151 rfl rfl ?_
          refine a_getr (pc := 152) fl_X7_22 (by assumption) (by decide) (by rfl) dX7_takesOwn_152 ?_
          refine a_iload_n (pc := 155) dX7_takesOwn_155 rfl rfl ?_
          refine a_iald (pc := 156)  (by assumption) rfl (by omega) (by decide) dX7_takesOwn_156 ?_
          refine a_top (y := 1) (by first | exact hk | (simp [up2_eq, upA_upA, upA_ap, up2_upA, upd_ap]; exact hk)) ?_
          refine a_iconst (pc := 157) (v := 3) dX7_takesOwn_157 (by decide) ?_
          refine a_icmp_ne (pc := 158) (tgt := 326) dX7_takesOwn_158 (by decide) (fun c_158 => ?_) (fun c_158 => ?_)
          · refine a_aload_n (pc := 326) dX7_takesOwn_326 rfl rfl ?_
            refine a_getr (pc := 327) fl_X7_22 (by assumption) (by decide) (by rfl) dX7_takesOwn_327 ?_
            refine a_iload_n (pc := 330) dX7_takesOwn_330 rfl rfl ?_
            refine a_iald (pc := 331)  (by assumption) rfl (by omega) (by decide) dX7_takesOwn_331 ?_
            refine a_top (y := 1) (by first | exact hk | (simp [up2_eq, upA_upA, upA_ap, up2_upA, upd_ap]; exact hk)) ?_
            refine a_iconst (pc := 332) (v := 4) dX7_takesOwn_332 (by decide) ?_
            refine a_icmp_ne (pc := 333) (tgt := 363) dX7_takesOwn_333 (by decide) (fun c_333 => ?_) (fun c_333 => ?_)
            · refine a_iconst (pc := 363) (v := 0) dX7_takesOwn_363 (by decide) ?_
              refine a_zret (pc := 364) rfl (by rfl) dX7_takesOwn_364 ?_
              refine ⟨rfl, ?_⟩
              simp_all [tk1F, up2_eq, upA_upA, upA_ap, up2_upA, upd_ap, upA_self, -Int32.not_lt, -Int32.not_le, -Nat.not_lt]
            · exact absurd c_333 (by decide)
          · exact absurd c_158 (by decide)
        · exact absurd c_105 (by decide)
  · refine a_iconst (pc := 22) (v := 1) dX7_takesOwn_22 (by decide) ?_
    refine a_goto (pc := 23) (tgt := 27) dX7_takesOwn_23 (by decide) ?_
    refine a_istore (pc := 27) (al' := [some (.ref _), some (.int _), some (.int _), some (.int _), some (.int _), some (.int _), some (.int _), none]) dX7_takesOwn_27 (by decide) rfl rfl ?_
    refine a_aload_n (pc := 29) dX7_takesOwn_29 rfl rfl ?_
    refine a_getr (pc := 30) fl_X7_22 (by assumption) (by decide) (by rfl) dX7_takesOwn_30 ?_
    refine a_iload_n (pc := 33) dX7_takesOwn_33 rfl rfl ?_
    refine a_iald (pc := 34)  (by assumption) rfl (by omega) (by decide) dX7_takesOwn_34 ?_
    refine a_top (y := 1) (by first | exact hk | (simp [up2_eq, upA_upA, upA_ap, up2_upA, upd_ap]; exact hk)) ?_
    refine a_iconst (pc := 35) (v := 1) dX7_takesOwn_35 (by decide) ?_
    refine a_icmp_ne (pc := 36) (tgt := 98) dX7_takesOwn_36 (by decide) (fun c_36 => ?_) (fun c_36 => ?_)
    · exact absurd c_36 (by decide)
    · refine a_iload (pc := 39) dX7_takesOwn_39 rfl ?_
      refine a_aload_n (pc := 41) dX7_takesOwn_41 rfl rfl ?_
      refine a_getr (pc := 42) fl_X7_13 (by assumption) (by decide) (by rfl) dX7_takesOwn_42 ?_
      refine a_iload (pc := 45) dX7_takesOwn_45 rfl ?_
      refine a_iconst (pc := 47) (v := 3) dX7_takesOwn_47 (by decide) ?_
      refine a_iaddN (pc := 48) (a := _) (b := 3) rfl rfl dX7_takesOwn_48 ?_
      refine a_iald (pc := 49)  (by assumption) rfl (by omega) (by decide) dX7_takesOwn_49 ?_
      refine a_icmp_le (pc := 50) (tgt := 98) dX7_takesOwn_50 (by decide) (fun c_50 => ?_) (fun c_50 => ?_)
      · refine a_aload_n (pc := 98) dX7_takesOwn_98 rfl rfl ?_
        refine a_getr (pc := 99) fl_X7_22 (by assumption) (by decide) (by rfl) dX7_takesOwn_99 ?_
        refine a_iload_n (pc := 102) dX7_takesOwn_102 rfl rfl ?_
        refine a_iald (pc := 103)  (by assumption) rfl (by omega) (by decide) dX7_takesOwn_103 ?_
        refine a_top (y := 1) (by first | exact hk | (simp [up2_eq, upA_upA, upA_ap, up2_upA, upd_ap]; exact hk)) ?_
        refine a_iconst (pc := 104) (v := 2) dX7_takesOwn_104 (by decide) ?_
        refine a_icmp_ne (pc := 105) (tgt := 151) dX7_takesOwn_105 (by decide) (fun c_105 => ?_) (fun c_105 => ?_)
        · refine a_aload_n (pc := 151) dX7_takesOwn_151 rfl rfl ?_
          refine a_getr (pc := 152) fl_X7_22 (by assumption) (by decide) (by rfl) dX7_takesOwn_152 ?_
          refine a_iload_n (pc := 155) dX7_takesOwn_155 rfl rfl ?_
          refine a_iald (pc := 156)  (by assumption) rfl (by omega) (by decide) dX7_takesOwn_156 ?_
          refine a_top (y := 1) (by first | exact hk | (simp [up2_eq, upA_upA, upA_ap, up2_upA, upd_ap]; exact hk)) ?_
          refine a_iconst (pc := 157) (v := 3) dX7_takesOwn_157 (by decide) ?_
          refine a_icmp_ne (pc := 158) (tgt := 326) dX7_takesOwn_158 (by decide) (fun c_158 => ?_) (fun c_158 => ?_)
          · refine a_aload_n (pc := 326) dX7_takesOwn_326 rfl rfl ?_
            refine a_getr (pc := 327) fl_X7_22 (by assumption) (by decide) (by rfl) dX7_takesOwn_327 ?_
            refine a_iload_n (pc := 330) dX7_takesOwn_330 rfl rfl ?_
            refine a_iald (pc := 331)  (by assumption) rfl (by omega) (by decide) dX7_takesOwn_331 ?_
            refine a_top (y := 1) (by first | exact hk | (simp [up2_eq, upA_upA, upA_ap, up2_upA, upd_ap]; exact hk)) ?_
            refine a_iconst (pc := 332) (v := 4) dX7_takesOwn_332 (by decide) ?_
            refine a_icmp_ne (pc := 333) (tgt := 363) dX7_takesOwn_333 (by decide) (fun c_333 => ?_) (fun c_333 => ?_)
            · refine a_iconst (pc := 363) (v := 0) dX7_takesOwn_363 (by decide) ?_
              refine a_zret (pc := 364) rfl (by rfl) dX7_takesOwn_364 ?_
              refine ⟨rfl, ?_⟩
              simp_all [tk1F, up2_eq, upA_upA, upA_ap, up2_upA, upd_ap, upA_self, -Int32.not_lt, -Int32.not_le, -Nat.not_lt]
            · exact absurd c_333 (by decide)
          · exact absurd c_158 (by decide)
        · exact absurd c_105 (by decide)
      · refine a_aload_n (pc := 53) dX7_takesOwn_53 rfl rfl ?_
        refine a_getr (pc := 54) fl_X7_13 (by assumption) (by decide) (by rfl) dX7_takesOwn_54 ?_
        refine a_iload (pc := 57) dX7_takesOwn_57 rfl ?_
        refine a_bipush (pc := 59) (v := 21) dX7_takesOwn_59 (by decide) ?_
        refine a_iaddN (pc := 61) (a := _) (b := 21) rfl rfl dX7_takesOwn_61 ?_
        refine a_iload (pc := 62) dX7_takesOwn_62 rfl ?_
        refine a_iconst (pc := 64) (v := 1) dX7_takesOwn_64 (by decide) ?_
        refine a_iadd (pc := 65) dX7_takesOwn_65 ?_
        refine a_iast (pc := 66)  (by assumption) rfl (by omega) (by decide) dX7_takesOwn_66 ?_
        refine a_aload_n (pc := 67) dX7_takesOwn_67 rfl rfl ?_
        refine a_getr (pc := 68) fl_X7_13 (by assumption) (by decide) (by rfl) dX7_takesOwn_68 ?_
        refine a_iload (pc := 71) dX7_takesOwn_71 rfl ?_
        refine a_bipush (pc := 73) (v := 21) dX7_takesOwn_73 (by decide) ?_
        refine a_iaddN (pc := 75) (a := _) (b := 21) rfl rfl dX7_takesOwn_75 ?_
        refine a_iconst (pc := 76) (v := 1) dX7_takesOwn_76 (by decide) ?_
        refine a_iaddN (pc := 77) (a := _) (b := 1) rfl rfl dX7_takesOwn_77 ?_
        refine a_iload_n (pc := 78) dX7_takesOwn_78 rfl rfl ?_
        refine a_iast (pc := 79)  (by assumption) rfl (by omega) (by decide) dX7_takesOwn_79 ?_
        refine a_aload_n (pc := 80) dX7_takesOwn_80 rfl rfl ?_
        refine a_getr (pc := 81) fl_X7_13 (by assumption) (by decide) (by rfl) dX7_takesOwn_81 ?_
        refine a_iload (pc := 84) dX7_takesOwn_84 rfl ?_
        refine a_bipush (pc := 86) (v := 21) dX7_takesOwn_86 (by decide) ?_
        refine a_iaddN (pc := 88) (a := _) (b := 21) rfl rfl dX7_takesOwn_88 ?_
        refine a_iconst (pc := 89) (v := 2) dX7_takesOwn_89 (by decide) ?_
        refine a_iaddN (pc := 90) (a := _) (b := 2) rfl rfl dX7_takesOwn_90 ?_
        refine a_aload_n (pc := 91) dX7_takesOwn_91 rfl rfl ?_
        refine a_getr (pc := 92) fl_X7_28 (by assumption) (by decide) (by rfl) dX7_takesOwn_92 ?_
        refine a_iload_n (pc := 95) dX7_takesOwn_95 rfl rfl ?_
        refine a_iald (pc := 96)  (by assumption) rfl (by omega) (by decide) dX7_takesOwn_96 ?_
        refine a_iast (pc := 97)  (by assumption) rfl (by omega) (by decide) dX7_takesOwn_97 ?_
        refine a_aload_n (pc := 98) dX7_takesOwn_98 rfl rfl ?_
        refine a_getr (pc := 99) fl_X7_22 (by assumption) (by decide) (by rfl) dX7_takesOwn_99 ?_
        refine a_iload_n (pc := 102) dX7_takesOwn_102 rfl rfl ?_
        refine a_iald (pc := 103)  (by assumption) rfl (by omega) (by decide) dX7_takesOwn_103 ?_
        refine a_top (y := 1) (by first | exact hk | (simp [up2_eq, upA_upA, upA_ap, up2_upA, upd_ap]; exact hk)) ?_
        refine a_iconst (pc := 104) (v := 2) dX7_takesOwn_104 (by decide) ?_
        refine a_icmp_ne (pc := 105) (tgt := 151) dX7_takesOwn_105 (by decide) (fun c_105 => ?_) (fun c_105 => ?_)
        · refine a_aload_n (pc := 151) dX7_takesOwn_151 rfl rfl ?_
          refine a_getr (pc := 152) fl_X7_22 (by assumption) (by decide) (by rfl) dX7_takesOwn_152 ?_
          refine a_iload_n (pc := 155) dX7_takesOwn_155 rfl rfl ?_
          refine a_iald (pc := 156)  (by assumption) rfl (by omega) (by decide) dX7_takesOwn_156 ?_
          refine a_top (y := 1) (by first | exact hk | (simp [up2_eq, upA_upA, upA_ap, up2_upA, upd_ap]; exact hk)) ?_
          refine a_iconst (pc := 157) (v := 3) dX7_takesOwn_157 (by decide) ?_
          refine a_icmp_ne (pc := 158) (tgt := 326) dX7_takesOwn_158 (by decide) (fun c_158 => ?_) (fun c_158 => ?_)
          · refine a_aload_n (pc := 326) dX7_takesOwn_326 rfl rfl ?_
            refine a_getr (pc := 327) fl_X7_22 (by assumption) (by decide) (by rfl) dX7_takesOwn_327 ?_
            refine a_iload_n (pc := 330) dX7_takesOwn_330 rfl rfl ?_
            refine a_iald (pc := 331)  (by assumption) rfl (by omega) (by decide) dX7_takesOwn_331 ?_
            refine a_top (y := 1) (by first | exact hk | (simp [up2_eq, upA_upA, upA_ap, up2_upA, upd_ap]; exact hk)) ?_
            refine a_iconst (pc := 332) (v := 4) dX7_takesOwn_332 (by decide) ?_
            refine a_icmp_ne (pc := 333) (tgt := 363) dX7_takesOwn_333 (by decide) (fun c_333 => ?_) (fun c_333 => ?_)
            · refine a_iconst (pc := 363) (v := 0) dX7_takesOwn_363 (by decide) ?_
              refine a_zret (pc := 364) rfl (by rfl) dX7_takesOwn_364 ?_
              refine ⟨rfl, ?_⟩
              simp_all [tk1F, up2_eq, upA_upA, upA_ap, up2_upA, upd_ap, upA_self, -Int32.not_lt, -Int32.not_le, -Nat.not_lt]
            · exact absurd c_333 (by decide)
          · exact absurd c_158 (by decide)
        · exact absurd c_105 (by decide)

def tk2F (f : Nat → Int32) (b i : Nat) (sl : Int32) : Int32 × (Nat → Int32) := if f (b + 70 * i + 27) = sl ∧ f (b + 70 * i + 26) = 1 then (1, upd (upd f (b + 70 * i + 26) 0) (b + 70 * i + 29) 1) else (0, f)
set_option maxHeartbeats 4000000 in
set_option maxRecDepth 100000 in
theorem c_X7_takesOwn2 {ν : Mem} {r i j : Nat} {sl : Int32} (hr : r < 3) (hi : i < 6) (hj : j < 6) (hk : ν 5 j = 2) : Con shM mX7_takesOwn [.ref 0, .int (nI r), .int (nI i), .int (nI j), .int sl] ν (fun q u => q = (tk2F (ν 2) (440 * r) i sl).1 ∧ u = upA ν 2 (tk2F (ν 2) (440 * r) i sl).2) := by
  have m0 : shM[0]? = some (7, 18, [none, some 1, none, none, none, none, none, some 2, some 3, none, none, some 4, none, none, some 5, some 6, some 7, some 8]) := rfl
  have m1 : shM[1]? = some (100, 200, []) := rfl
  have m2 : shM[2]? = some (100, 1320, []) := rfl
  have m3 : shM[3]? = some (100, 1760, []) := rfl
  have m4 : shM[4]? = some (100, 4, []) := rfl
  have m5 : shM[5]? = some (100, 6, []) := rfl
  have m6 : shM[6]? = some (100, 6, []) := rfl
  have m7 : shM[7]? = some (100, 6, []) := rfl
  have m8 : shM[8]? = some (100, 6, []) := rfl
  refine Con.ofAW (al0 := [some (.ref 0), some (.int (nI r)), some (.int (nI i)), some (.int (nI j)), some (.int sl), none, none, none]) (by decide) rfl (Nat.le_of_ble_eq_true rfl) rfl ?_
  refine a_iload_n (pc := 0) dX7_takesOwn_0 rfl rfl ?_
  refine a_iload_n (pc := 1) dX7_takesOwn_1 rfl rfl ?_
  refine a_callS2 (pc := 2) cs_X7_52 ⟨(Nat.le_of_ble_eq_true rfl), (Nat.le_of_ble_eq_true rfl)⟩ (Nat.le_of_ble_eq_true rfl) dX7_takesOwn_2 rfl c_X7_at ?_
  rintro r_ u ⟨rfl, rfl⟩
  refine a_istore (pc := 5) (al' := [some (.ref _), some (.int _), some (.int _), some (.int _), some (.int _), some (.int _), none, none]) dX7_takesOwn_5 (by decide) rfl rfl ?_
  refine a_aload_n (pc := 7) dX7_takesOwn_7 rfl rfl ?_
  refine a_getr (pc := 8) fl_X7_13 (by assumption) (by decide) (by rfl) dX7_takesOwn_8 ?_
  refine a_iload (pc := 11) dX7_takesOwn_11 rfl ?_
  refine a_bipush (pc := 13) (v := 27) dX7_takesOwn_13 (by decide) ?_
  refine a_iaddN (pc := 15) (a := _) (b := 27) rfl rfl dX7_takesOwn_15 ?_
  refine a_iald (pc := 16)  (by assumption) rfl (by omega) (by decide) dX7_takesOwn_16 ?_
  refine a_iload (pc := 17) dX7_takesOwn_17 rfl ?_
  refine a_icmp_ne (pc := 19) (tgt := 26) dX7_takesOwn_19 (by decide) (fun c_19 => ?_) (fun c_19 => ?_)
  · refine a_iconst (pc := 26) (v := 0) dX7_takesOwn_26 (by decide) ?_
    refine a_istore (pc := 27) (al' := [some (.ref _), some (.int _), some (.int _), some (.int _), some (.int _), some (.int _), some (.int _), none]) dX7_takesOwn_27 (by decide) rfl rfl ?_
    refine a_aload_n (pc := 29) dX7_takesOwn_29 rfl rfl ?_
    refine a_getr (pc := 30) fl_X7_22 (by assumption) (by decide) (by rfl) dX7_takesOwn_30 ?_
    refine a_iload_n (pc := 33) dX7_takesOwn_33 rfl rfl ?_
    refine a_iald (pc := 34)  (by assumption) rfl (by omega) (by decide) dX7_takesOwn_34 ?_
    refine a_top (y := 2) (by first | exact hk | (simp [up2_eq, upA_upA, upA_ap, up2_upA, upd_ap]; exact hk)) ?_
    refine a_iconst (pc := 35) (v := 1) dX7_takesOwn_35 (by decide) ?_
    refine a_icmp_ne (pc := 36) (tgt := 98) dX7_takesOwn_36 (by decide) (fun c_36 => ?_) (fun c_36 => ?_)
    · refine a_aload_n (pc := 98) dX7_takesOwn_98 rfl rfl ?_
      refine a_getr (pc := 99) fl_X7_22 (by assumption) (by decide) (by rfl) dX7_takesOwn_99 ?_
      refine a_iload_n (pc := 102) dX7_takesOwn_102 rfl rfl ?_
      refine a_iald (pc := 103)  (by assumption) rfl (by omega) (by decide) dX7_takesOwn_103 ?_
      refine a_top (y := 2) (by first | exact hk | (simp [up2_eq, upA_upA, upA_ap, up2_upA, upd_ap]; exact hk)) ?_
      refine a_iconst (pc := 104) (v := 2) dX7_takesOwn_104 (by decide) ?_
      refine a_icmp_ne (pc := 105) (tgt := 151) dX7_takesOwn_105 (by decide) (fun c_105 => ?_) (fun c_105 => ?_)
      · exact absurd c_105 (by decide)
      · refine a_iload (pc := 108) dX7_takesOwn_108 rfl ?_
        refine a_if_eq (pc := 110) (tgt := 151) dX7_takesOwn_110 (by decide) (fun c_110 => ?_) (fun c_110 => ?_)
        · refine a_aload_n (pc := 151) dX7_takesOwn_151 rfl rfl ?_
          refine a_getr (pc := 152) fl_X7_22 (by assumption) (by decide) (by rfl) dX7_takesOwn_152 ?_
          refine a_iload_n (pc := 155) dX7_takesOwn_155 rfl rfl ?_
          refine a_iald (pc := 156)  (by assumption) rfl (by omega) (by decide) dX7_takesOwn_156 ?_
          refine a_top (y := 2) (by first | exact hk | (simp [up2_eq, upA_upA, upA_ap, up2_upA, upd_ap]; exact hk)) ?_
          refine a_iconst (pc := 157) (v := 3) dX7_takesOwn_157 (by decide) ?_
          refine a_icmp_ne (pc := 158) (tgt := 326) dX7_takesOwn_158 (by decide) (fun c_158 => ?_) (fun c_158 => ?_)
          · refine a_aload_n (pc := 326) dX7_takesOwn_326 rfl rfl ?_
            refine a_getr (pc := 327) fl_X7_22 (by assumption) (by decide) (by rfl) dX7_takesOwn_327 ?_
            refine a_iload_n (pc := 330) dX7_takesOwn_330 rfl rfl ?_
            refine a_iald (pc := 331)  (by assumption) rfl (by omega) (by decide) dX7_takesOwn_331 ?_
            refine a_top (y := 2) (by first | exact hk | (simp [up2_eq, upA_upA, upA_ap, up2_upA, upd_ap]; exact hk)) ?_
            refine a_iconst (pc := 332) (v := 4) dX7_takesOwn_332 (by decide) ?_
            refine a_icmp_ne (pc := 333) (tgt := 363) dX7_takesOwn_333 (by decide) (fun c_333 => ?_) (fun c_333 => ?_)
            · refine a_iconst (pc := 363) (v := 0) dX7_takesOwn_363 (by decide) ?_
              refine a_zret (pc := 364) rfl (by rfl) dX7_takesOwn_364 ?_
              simp_all [tk2F, up2_eq, upA_upA, upA_ap, up2_upA, upd_ap, upA_self, -Int32.not_lt, -Int32.not_le, -Nat.not_lt]
            · exact absurd c_333 (by decide)
          · exact absurd c_158 (by decide)
        · exact absurd c_110 (by decide)
    · exact absurd c_36 (by decide)
  · refine a_iconst (pc := 22) (v := 1) dX7_takesOwn_22 (by decide) ?_
    refine a_goto (pc := 23) (tgt := 27) dX7_takesOwn_23 (by decide) ?_
    refine a_istore (pc := 27) (al' := [some (.ref _), some (.int _), some (.int _), some (.int _), some (.int _), some (.int _), some (.int _), none]) dX7_takesOwn_27 (by decide) rfl rfl ?_
    refine a_aload_n (pc := 29) dX7_takesOwn_29 rfl rfl ?_
    refine a_getr (pc := 30) fl_X7_22 (by assumption) (by decide) (by rfl) dX7_takesOwn_30 ?_
    refine a_iload_n (pc := 33) dX7_takesOwn_33 rfl rfl ?_
    refine a_iald (pc := 34)  (by assumption) rfl (by omega) (by decide) dX7_takesOwn_34 ?_
    refine a_top (y := 2) (by first | exact hk | (simp [up2_eq, upA_upA, upA_ap, up2_upA, upd_ap]; exact hk)) ?_
    refine a_iconst (pc := 35) (v := 1) dX7_takesOwn_35 (by decide) ?_
    refine a_icmp_ne (pc := 36) (tgt := 98) dX7_takesOwn_36 (by decide) (fun c_36 => ?_) (fun c_36 => ?_)
    · refine a_aload_n (pc := 98) dX7_takesOwn_98 rfl rfl ?_
      refine a_getr (pc := 99) fl_X7_22 (by assumption) (by decide) (by rfl) dX7_takesOwn_99 ?_
      refine a_iload_n (pc := 102) dX7_takesOwn_102 rfl rfl ?_
      refine a_iald (pc := 103)  (by assumption) rfl (by omega) (by decide) dX7_takesOwn_103 ?_
      refine a_top (y := 2) (by first | exact hk | (simp [up2_eq, upA_upA, upA_ap, up2_upA, upd_ap]; exact hk)) ?_
      refine a_iconst (pc := 104) (v := 2) dX7_takesOwn_104 (by decide) ?_
      refine a_icmp_ne (pc := 105) (tgt := 151) dX7_takesOwn_105 (by decide) (fun c_105 => ?_) (fun c_105 => ?_)
      · exact absurd c_105 (by decide)
      · refine a_iload (pc := 108) dX7_takesOwn_108 rfl ?_
        refine a_if_eq (pc := 110) (tgt := 151) dX7_takesOwn_110 (by decide) (fun c_110 => ?_) (fun c_110 => ?_)
        · exact absurd c_110 (by decide)
        · refine a_aload_n (pc := 113) dX7_takesOwn_113 rfl rfl ?_
          refine a_getr (pc := 114) fl_X7_13 (by assumption) (by decide) (by rfl) dX7_takesOwn_114 ?_
          refine a_iload (pc := 117) dX7_takesOwn_117 rfl ?_
          refine a_bipush (pc := 119) (v := 26) dX7_takesOwn_119 (by decide) ?_
          refine a_iaddN (pc := 121) (a := _) (b := 26) rfl rfl dX7_takesOwn_121 ?_
          refine a_iald (pc := 122)  (by assumption) rfl (by omega) (by decide) dX7_takesOwn_122 ?_
          refine a_iconst (pc := 123) (v := 1) dX7_takesOwn_123 (by decide) ?_
          refine a_icmp_ne (pc := 124) (tgt := 151) dX7_takesOwn_124 (by decide) (fun c_124 => ?_) (fun c_124 => ?_)
          · refine a_aload_n (pc := 151) dX7_takesOwn_151 rfl rfl ?_
            refine a_getr (pc := 152) fl_X7_22 (by assumption) (by decide) (by rfl) dX7_takesOwn_152 ?_
            refine a_iload_n (pc := 155) dX7_takesOwn_155 rfl rfl ?_
            refine a_iald (pc := 156)  (by assumption) rfl (by omega) (by decide) dX7_takesOwn_156 ?_
            refine a_top (y := 2) (by first | exact hk | (simp [up2_eq, upA_upA, upA_ap, up2_upA, upd_ap]; exact hk)) ?_
            refine a_iconst (pc := 157) (v := 3) dX7_takesOwn_157 (by decide) ?_
            refine a_icmp_ne (pc := 158) (tgt := 326) dX7_takesOwn_158 (by decide) (fun c_158 => ?_) (fun c_158 => ?_)
            · refine a_aload_n (pc := 326) dX7_takesOwn_326 rfl rfl ?_
              refine a_getr (pc := 327) fl_X7_22 (by assumption) (by decide) (by rfl) dX7_takesOwn_327 ?_
              refine a_iload_n (pc := 330) dX7_takesOwn_330 rfl rfl ?_
              refine a_iald (pc := 331)  (by assumption) rfl (by omega) (by decide) dX7_takesOwn_331 ?_
              refine a_top (y := 2) (by first | exact hk | (simp [up2_eq, upA_upA, upA_ap, up2_upA, upd_ap]; exact hk)) ?_
              refine a_iconst (pc := 332) (v := 4) dX7_takesOwn_332 (by decide) ?_
              refine a_icmp_ne (pc := 333) (tgt := 363) dX7_takesOwn_333 (by decide) (fun c_333 => ?_) (fun c_333 => ?_)
              · refine a_iconst (pc := 363) (v := 0) dX7_takesOwn_363 (by decide) ?_
                refine a_zret (pc := 364) rfl (by rfl) dX7_takesOwn_364 ?_
                simp_all [tk2F, up2_eq, upA_upA, upA_ap, up2_upA, upd_ap, upA_self, -Int32.not_lt, -Int32.not_le, -Nat.not_lt]
              · exact absurd c_333 (by decide)
            · exact absurd c_158 (by decide)
          · refine a_aload_n (pc := 127) dX7_takesOwn_127 rfl rfl ?_
            refine a_getr (pc := 128) fl_X7_13 (by assumption) (by decide) (by rfl) dX7_takesOwn_128 ?_
            refine a_iload (pc := 131) dX7_takesOwn_131 rfl ?_
            refine a_bipush (pc := 133) (v := 26) dX7_takesOwn_133 (by decide) ?_
            refine a_iaddN (pc := 135) (a := _) (b := 26) rfl rfl dX7_takesOwn_135 ?_
            refine a_iconst (pc := 136) (v := 0) dX7_takesOwn_136 (by decide) ?_
            refine a_iast (pc := 137)  (by assumption) rfl (by omega) (by decide) dX7_takesOwn_137 ?_
            refine a_aload_n (pc := 138) dX7_takesOwn_138 rfl rfl ?_
            refine a_getr (pc := 139) fl_X7_13 (by assumption) (by decide) (by rfl) dX7_takesOwn_139 ?_
            refine a_iload (pc := 142) dX7_takesOwn_142 rfl ?_
            refine a_bipush (pc := 144) (v := 29) dX7_takesOwn_144 (by decide) ?_
            refine a_iaddN (pc := 146) (a := _) (b := 29) rfl rfl dX7_takesOwn_146 ?_
            refine a_iconst (pc := 147) (v := 1) dX7_takesOwn_147 (by decide) ?_
            refine a_iast (pc := 148)  (by assumption) rfl (by omega) (by decide) dX7_takesOwn_148 ?_
            refine a_iconst (pc := 149) (v := 1) dX7_takesOwn_149 (by decide) ?_
            refine a_zret (pc := 150) rfl (by rfl) dX7_takesOwn_150 ?_
            simp_all [tk2F, up2_eq, upA_upA, upA_ap, up2_upA, upd_ap, upA_self, -Int32.not_lt, -Int32.not_le, -Nat.not_lt]
    · exact absurd c_36 (by decide)

def nxtP (f : Nat → Int32) (b i j : Nat) (sl p : Int32) : Prop := p = 0 ∨ (f (b + 70 * i + 30) = nI j ∧ f (b + 70 * i + 31) = p ∧ f (b + 70 * i + 32) = sl - 1)
def tk3P (f : Nat → Int32) (b i j : Nat) (sl wd p : Int32) (g : Nat → Int32) : Prop := (nxtP f b i j sl p ∧ p + 1 = wd ∧ g = upd (upd (upd (upd (upd f (b + 70 * i + 31) (p + 1)) (b + 70 * i + 30) (nI j)) (b + 70 * i + 32) sl) (b + 70 * i + 24) (sl + 1)) (b + 70 * i + 25) (nI j)) ∨ (nxtP f b i j sl p ∧ ¬ p + 1 = wd ∧ g = upd (upd (upd f (b + 70 * i + 31) (p + 1)) (b + 70 * i + 30) (nI j)) (b + 70 * i + 32) sl) ∨ (¬ nxtP f b i j sl p ∧ g = upd (upd (upd f (b + 70 * i + 31) 0) (b + 70 * i + 30) (nI j)) (b + 70 * i + 32) sl)
set_option maxHeartbeats 4000000 in
set_option maxRecDepth 100000 in
theorem c_X7_takesOwn3 {ν : Mem} {r i j : Nat} {sl : Int32} (hr : r < 3) (hi : i < 6) (hj : j < 6) (hk : ν 5 j = 3) : Con shM mX7_takesOwn [.ref 0, .int (nI r), .int (nI i), .int (nI j), .int sl] ν (fun q u => q = 0 ∧ u = upA ν 2 (u 2) ∧ tk3P (ν 2) (440 * r) i j sl (ν 7 j) (ν 8 j) (u 2)) := by
  have m0 : shM[0]? = some (7, 18, [none, some 1, none, none, none, none, none, some 2, some 3, none, none, some 4, none, none, some 5, some 6, some 7, some 8]) := rfl
  have m1 : shM[1]? = some (100, 200, []) := rfl
  have m2 : shM[2]? = some (100, 1320, []) := rfl
  have m3 : shM[3]? = some (100, 1760, []) := rfl
  have m4 : shM[4]? = some (100, 4, []) := rfl
  have m5 : shM[5]? = some (100, 6, []) := rfl
  have m6 : shM[6]? = some (100, 6, []) := rfl
  have m7 : shM[7]? = some (100, 6, []) := rfl
  have m8 : shM[8]? = some (100, 6, []) := rfl
  refine Con.ofAW (al0 := [some (.ref 0), some (.int (nI r)), some (.int (nI i)), some (.int (nI j)), some (.int sl), none, none, none]) (by decide) rfl (Nat.le_of_ble_eq_true rfl) rfl ?_
  refine a_iload_n (pc := 0) dX7_takesOwn_0 rfl rfl ?_
  refine a_iload_n (pc := 1) dX7_takesOwn_1 rfl rfl ?_
  refine a_callS2 (pc := 2) cs_X7_52 ⟨(Nat.le_of_ble_eq_true rfl), (Nat.le_of_ble_eq_true rfl)⟩ (Nat.le_of_ble_eq_true rfl) dX7_takesOwn_2 rfl c_X7_at ?_
  rintro r_ u ⟨rfl, rfl⟩
  refine a_istore (pc := 5) (al' := [some (.ref _), some (.int _), some (.int _), some (.int _), some (.int _), some (.int _), none, none]) dX7_takesOwn_5 (by decide) rfl rfl ?_
  refine a_aload_n (pc := 7) dX7_takesOwn_7 rfl rfl ?_
  refine a_getr (pc := 8) fl_X7_13 (by assumption) (by decide) (by rfl) dX7_takesOwn_8 ?_
  refine a_iload (pc := 11) dX7_takesOwn_11 rfl ?_
  refine a_bipush (pc := 13) (v := 27) dX7_takesOwn_13 (by decide) ?_
  refine a_iaddN (pc := 15) (a := _) (b := 27) rfl rfl dX7_takesOwn_15 ?_
  refine a_iald (pc := 16)  (by assumption) rfl (by omega) (by decide) dX7_takesOwn_16 ?_
  refine a_iload (pc := 17) dX7_takesOwn_17 rfl ?_
  refine a_icmp_ne (pc := 19) (tgt := 26) dX7_takesOwn_19 (by decide) (fun c_19 => ?_) (fun c_19 => ?_)
  · refine a_iconst (pc := 26) (v := 0) dX7_takesOwn_26 (by decide) ?_
    refine a_istore (pc := 27) (al' := [some (.ref _), some (.int _), some (.int _), some (.int _), some (.int _), some (.int _), some (.int _), none]) dX7_takesOwn_27 (by decide) rfl rfl ?_
    refine a_aload_n (pc := 29) dX7_takesOwn_29 rfl rfl ?_
    refine a_getr (pc := 30) fl_X7_22 (by assumption) (by decide) (by rfl) dX7_takesOwn_30 ?_
    refine a_iload_n (pc := 33) dX7_takesOwn_33 rfl rfl ?_
    refine a_iald (pc := 34)  (by assumption) rfl (by omega) (by decide) dX7_takesOwn_34 ?_
    refine a_top (y := 3) (by first | exact hk | (simp [up2_eq, upA_upA, upA_ap, up2_upA, upd_ap]; exact hk)) ?_
    refine a_iconst (pc := 35) (v := 1) dX7_takesOwn_35 (by decide) ?_
    refine a_icmp_ne (pc := 36) (tgt := 98) dX7_takesOwn_36 (by decide) (fun c_36 => ?_) (fun c_36 => ?_)
    · refine a_aload_n (pc := 98) dX7_takesOwn_98 rfl rfl ?_
      refine a_getr (pc := 99) fl_X7_22 (by assumption) (by decide) (by rfl) dX7_takesOwn_99 ?_
      refine a_iload_n (pc := 102) dX7_takesOwn_102 rfl rfl ?_
      refine a_iald (pc := 103)  (by assumption) rfl (by omega) (by decide) dX7_takesOwn_103 ?_
      refine a_top (y := 3) (by first | exact hk | (simp [up2_eq, upA_upA, upA_ap, up2_upA, upd_ap]; exact hk)) ?_
      refine a_iconst (pc := 104) (v := 2) dX7_takesOwn_104 (by decide) ?_
      refine a_icmp_ne (pc := 105) (tgt := 151) dX7_takesOwn_105 (by decide) (fun c_105 => ?_) (fun c_105 => ?_)
      · refine a_aload_n (pc := 151) dX7_takesOwn_151 rfl rfl ?_
        refine a_getr (pc := 152) fl_X7_22 (by assumption) (by decide) (by rfl) dX7_takesOwn_152 ?_
        refine a_iload_n (pc := 155) dX7_takesOwn_155 rfl rfl ?_
        refine a_iald (pc := 156)  (by assumption) rfl (by omega) (by decide) dX7_takesOwn_156 ?_
        refine a_top (y := 3) (by first | exact hk | (simp [up2_eq, upA_upA, upA_ap, up2_upA, upd_ap]; exact hk)) ?_
        refine a_iconst (pc := 157) (v := 3) dX7_takesOwn_157 (by decide) ?_
        refine a_icmp_ne (pc := 158) (tgt := 326) dX7_takesOwn_158 (by decide) (fun c_158 => ?_) (fun c_158 => ?_)
        · exact absurd c_158 (by decide)
        · refine a_aload_n (pc := 161) dX7_takesOwn_161 rfl rfl ?_
          refine a_getr (pc := 162) fl_X7_31 (by assumption) (by decide) (by rfl) dX7_takesOwn_162 ?_
          refine a_iload_n (pc := 165) dX7_takesOwn_165 rfl rfl ?_
          refine a_iald (pc := 166)  (by assumption) rfl (by omega) (by decide) dX7_takesOwn_166 ?_
          refine a_if_eq (pc := 167) (tgt := 220) dX7_takesOwn_167 (by decide) (fun c_167 => ?_) (fun c_167 => ?_)
          · refine a_iconst (pc := 220) (v := 1) dX7_takesOwn_220 (by decide) ?_
            refine a_goto (pc := 221) (tgt := 225) dX7_takesOwn_221 (by decide) ?_
            refine a_istore (pc := 225) (al' := [some (.ref _), some (.int _), some (.int _), some (.int _), some (.int _), some (.int _), some (.int _), some (.int _)]) dX7_takesOwn_225 (by decide) rfl rfl ?_
            refine a_aload_n (pc := 227) dX7_takesOwn_227 rfl rfl ?_
            refine a_getr (pc := 228) fl_X7_13 (by assumption) (by decide) (by rfl) dX7_takesOwn_228 ?_
            refine a_iload (pc := 231) dX7_takesOwn_231 rfl ?_
            refine a_bipush (pc := 233) (v := 31) dX7_takesOwn_233 (by decide) ?_
            refine a_iaddN (pc := 235) (a := _) (b := 31) rfl rfl dX7_takesOwn_235 ?_
            refine a_iload (pc := 236) dX7_takesOwn_236 rfl ?_
            refine a_if_eq (pc := 238) (tgt := 252) dX7_takesOwn_238 (by decide) (fun c_238 => ?_) (fun c_238 => ?_)
            · exact absurd c_238 (by decide)
            · refine a_aload_n (pc := 241) dX7_takesOwn_241 rfl rfl ?_
              refine a_getr (pc := 242) fl_X7_31 (by assumption) (by decide) (by rfl) dX7_takesOwn_242 ?_
              refine a_iload_n (pc := 245) dX7_takesOwn_245 rfl rfl ?_
              refine a_iald (pc := 246)  (by assumption) rfl (by omega) (by decide) dX7_takesOwn_246 ?_
              refine a_iconst (pc := 247) (v := 1) dX7_takesOwn_247 (by decide) ?_
              refine a_iadd (pc := 248) dX7_takesOwn_248 ?_
              refine a_goto (pc := 249) (tgt := 253) dX7_takesOwn_249 (by decide) ?_
              refine a_iast (pc := 253)  (by assumption) rfl (by omega) (by decide) dX7_takesOwn_253 ?_
              refine a_aload_n (pc := 254) dX7_takesOwn_254 rfl rfl ?_
              refine a_getr (pc := 255) fl_X7_13 (by assumption) (by decide) (by rfl) dX7_takesOwn_255 ?_
              refine a_iload (pc := 258) dX7_takesOwn_258 rfl ?_
              refine a_bipush (pc := 260) (v := 30) dX7_takesOwn_260 (by decide) ?_
              refine a_iaddN (pc := 262) (a := _) (b := 30) rfl rfl dX7_takesOwn_262 ?_
              refine a_iload_n (pc := 263) dX7_takesOwn_263 rfl rfl ?_
              refine a_iast (pc := 264)  (by assumption) rfl (by omega) (by decide) dX7_takesOwn_264 ?_
              refine a_aload_n (pc := 265) dX7_takesOwn_265 rfl rfl ?_
              refine a_getr (pc := 266) fl_X7_13 (by assumption) (by decide) (by rfl) dX7_takesOwn_266 ?_
              refine a_iload (pc := 269) dX7_takesOwn_269 rfl ?_
              refine a_bipush (pc := 271) (v := 32) dX7_takesOwn_271 (by decide) ?_
              refine a_iaddN (pc := 273) (a := _) (b := 32) rfl rfl dX7_takesOwn_273 ?_
              refine a_iload (pc := 274) dX7_takesOwn_274 rfl ?_
              refine a_iast (pc := 276)  (by assumption) rfl (by omega) (by decide) dX7_takesOwn_276 ?_
              refine a_iload (pc := 277) dX7_takesOwn_277 rfl ?_
              refine a_if_eq (pc := 279) (tgt := 326) dX7_takesOwn_279 (by decide) (fun c_279 => ?_) (fun c_279 => ?_)
              · exact absurd c_279 (by decide)
              · refine a_aload_n (pc := 282) dX7_takesOwn_282 rfl rfl ?_
                refine a_getr (pc := 283) fl_X7_31 (by assumption) (by decide) (by rfl) dX7_takesOwn_283 ?_
                refine a_iload_n (pc := 286) dX7_takesOwn_286 rfl rfl ?_
                refine a_iald (pc := 287)  (by assumption) rfl (by omega) (by decide) dX7_takesOwn_287 ?_
                refine a_iconst (pc := 288) (v := 1) dX7_takesOwn_288 (by decide) ?_
                refine a_iadd (pc := 289) dX7_takesOwn_289 ?_
                refine a_aload_n (pc := 290) dX7_takesOwn_290 rfl rfl ?_
                refine a_getr (pc := 291) fl_X7_28 (by assumption) (by decide) (by rfl) dX7_takesOwn_291 ?_
                refine a_iload_n (pc := 294) dX7_takesOwn_294 rfl rfl ?_
                refine a_iald (pc := 295)  (by assumption) rfl (by omega) (by decide) dX7_takesOwn_295 ?_
                refine a_icmp_ne (pc := 296) (tgt := 326) dX7_takesOwn_296 (by decide) (fun c_296 => ?_) (fun c_296 => ?_)
                · refine a_aload_n (pc := 326) dX7_takesOwn_326 rfl rfl ?_
                  refine a_getr (pc := 327) fl_X7_22 (by assumption) (by decide) (by rfl) dX7_takesOwn_327 ?_
                  refine a_iload_n (pc := 330) dX7_takesOwn_330 rfl rfl ?_
                  refine a_iald (pc := 331)  (by assumption) rfl (by omega) (by decide) dX7_takesOwn_331 ?_
                  refine a_top (y := 3) (by first | exact hk | (simp [up2_eq, upA_upA, upA_ap, up2_upA, upd_ap]; exact hk)) ?_
                  refine a_iconst (pc := 332) (v := 4) dX7_takesOwn_332 (by decide) ?_
                  refine a_icmp_ne (pc := 333) (tgt := 363) dX7_takesOwn_333 (by decide) (fun c_333 => ?_) (fun c_333 => ?_)
                  · refine a_iconst (pc := 363) (v := 0) dX7_takesOwn_363 (by decide) ?_
                    refine a_zret (pc := 364) rfl (by rfl) dX7_takesOwn_364 ?_
                    refine ⟨rfl, ?_, ?_⟩
                    · simp only [up2_eq, upA_upA, up2_upA, upA_at, upA_self]
                    · simp_all [tk3P, nxtP, up2_eq, upA_upA, upA_ap, up2_upA, upd_ap, -Int32.not_lt, -Int32.not_le, -Nat.not_lt]
                  · exact absurd c_333 (by decide)
                · refine a_aload_n (pc := 299) dX7_takesOwn_299 rfl rfl ?_
                  refine a_getr (pc := 300) fl_X7_13 (by assumption) (by decide) (by rfl) dX7_takesOwn_300 ?_
                  refine a_iload (pc := 303) dX7_takesOwn_303 rfl ?_
                  refine a_bipush (pc := 305) (v := 24) dX7_takesOwn_305 (by decide) ?_
                  refine a_iaddN (pc := 307) (a := _) (b := 24) rfl rfl dX7_takesOwn_307 ?_
                  refine a_iload (pc := 308) dX7_takesOwn_308 rfl ?_
                  refine a_iconst (pc := 310) (v := 1) dX7_takesOwn_310 (by decide) ?_
                  refine a_iadd (pc := 311) dX7_takesOwn_311 ?_
                  refine a_iast (pc := 312)  (by assumption) rfl (by omega) (by decide) dX7_takesOwn_312 ?_
                  refine a_aload_n (pc := 313) dX7_takesOwn_313 rfl rfl ?_
                  refine a_getr (pc := 314) fl_X7_13 (by assumption) (by decide) (by rfl) dX7_takesOwn_314 ?_
                  refine a_iload (pc := 317) dX7_takesOwn_317 rfl ?_
                  refine a_bipush (pc := 319) (v := 24) dX7_takesOwn_319 (by decide) ?_
                  refine a_iaddN (pc := 321) (a := _) (b := 24) rfl rfl dX7_takesOwn_321 ?_
                  refine a_iconst (pc := 322) (v := 1) dX7_takesOwn_322 (by decide) ?_
                  refine a_iaddN (pc := 323) (a := _) (b := 1) rfl rfl dX7_takesOwn_323 ?_
                  refine a_iload_n (pc := 324) dX7_takesOwn_324 rfl rfl ?_
                  refine a_iast (pc := 325)  (by assumption) rfl (by omega) (by decide) dX7_takesOwn_325 ?_
                  refine a_aload_n (pc := 326) dX7_takesOwn_326 rfl rfl ?_
                  refine a_getr (pc := 327) fl_X7_22 (by assumption) (by decide) (by rfl) dX7_takesOwn_327 ?_
                  refine a_iload_n (pc := 330) dX7_takesOwn_330 rfl rfl ?_
                  refine a_iald (pc := 331)  (by assumption) rfl (by omega) (by decide) dX7_takesOwn_331 ?_
                  refine a_top (y := 3) (by first | exact hk | (simp [up2_eq, upA_upA, upA_ap, up2_upA, upd_ap]; exact hk)) ?_
                  refine a_iconst (pc := 332) (v := 4) dX7_takesOwn_332 (by decide) ?_
                  refine a_icmp_ne (pc := 333) (tgt := 363) dX7_takesOwn_333 (by decide) (fun c_333 => ?_) (fun c_333 => ?_)
                  · refine a_iconst (pc := 363) (v := 0) dX7_takesOwn_363 (by decide) ?_
                    refine a_zret (pc := 364) rfl (by rfl) dX7_takesOwn_364 ?_
                    refine ⟨rfl, ?_, ?_⟩
                    · simp only [up2_eq, upA_upA, up2_upA, upA_at, upA_self]
                    · simp_all [tk3P, nxtP, up2_eq, upA_upA, upA_ap, up2_upA, upd_ap, -Int32.not_lt, -Int32.not_le, -Nat.not_lt]
                  · exact absurd c_333 (by decide)
          · refine a_aload_n (pc := 170) dX7_takesOwn_170 rfl rfl ?_
            refine a_getr (pc := 171) fl_X7_13 (by assumption) (by decide) (by rfl) dX7_takesOwn_171 ?_
            refine a_iload (pc := 174) dX7_takesOwn_174 rfl ?_
            refine a_bipush (pc := 176) (v := 30) dX7_takesOwn_176 (by decide) ?_
            refine a_iaddN (pc := 178) (a := _) (b := 30) rfl rfl dX7_takesOwn_178 ?_
            refine a_iald (pc := 179)  (by assumption) rfl (by omega) (by decide) dX7_takesOwn_179 ?_
            refine a_iload_n (pc := 180) dX7_takesOwn_180 rfl rfl ?_
            refine a_icmp_ne (pc := 181) (tgt := 224) dX7_takesOwn_181 (by decide) (fun c_181 => ?_) (fun c_181 => ?_)
            · refine a_iconst (pc := 224) (v := 0) dX7_takesOwn_224 (by decide) ?_
              refine a_istore (pc := 225) (al' := [some (.ref _), some (.int _), some (.int _), some (.int _), some (.int _), some (.int _), some (.int _), some (.int _)]) dX7_takesOwn_225 (by decide) rfl rfl ?_
              refine a_aload_n (pc := 227) dX7_takesOwn_227 rfl rfl ?_
              refine a_getr (pc := 228) fl_X7_13 (by assumption) (by decide) (by rfl) dX7_takesOwn_228 ?_
              refine a_iload (pc := 231) dX7_takesOwn_231 rfl ?_
              refine a_bipush (pc := 233) (v := 31) dX7_takesOwn_233 (by decide) ?_
              refine a_iaddN (pc := 235) (a := _) (b := 31) rfl rfl dX7_takesOwn_235 ?_
              refine a_iload (pc := 236) dX7_takesOwn_236 rfl ?_
              refine a_if_eq (pc := 238) (tgt := 252) dX7_takesOwn_238 (by decide) (fun c_238 => ?_) (fun c_238 => ?_)
              · refine a_iconst (pc := 252) (v := 0) dX7_takesOwn_252 (by decide) ?_
                refine a_iast (pc := 253)  (by assumption) rfl (by omega) (by decide) dX7_takesOwn_253 ?_
                refine a_aload_n (pc := 254) dX7_takesOwn_254 rfl rfl ?_
                refine a_getr (pc := 255) fl_X7_13 (by assumption) (by decide) (by rfl) dX7_takesOwn_255 ?_
                refine a_iload (pc := 258) dX7_takesOwn_258 rfl ?_
                refine a_bipush (pc := 260) (v := 30) dX7_takesOwn_260 (by decide) ?_
                refine a_iaddN (pc := 262) (a := _) (b := 30) rfl rfl dX7_takesOwn_262 ?_
                refine a_iload_n (pc := 263) dX7_takesOwn_263 rfl rfl ?_
                refine a_iast (pc := 264)  (by assumption) rfl (by omega) (by decide) dX7_takesOwn_264 ?_
                refine a_aload_n (pc := 265) dX7_takesOwn_265 rfl rfl ?_
                refine a_getr (pc := 266) fl_X7_13 (by assumption) (by decide) (by rfl) dX7_takesOwn_266 ?_
                refine a_iload (pc := 269) dX7_takesOwn_269 rfl ?_
                refine a_bipush (pc := 271) (v := 32) dX7_takesOwn_271 (by decide) ?_
                refine a_iaddN (pc := 273) (a := _) (b := 32) rfl rfl dX7_takesOwn_273 ?_
                refine a_iload (pc := 274) dX7_takesOwn_274 rfl ?_
                refine a_iast (pc := 276)  (by assumption) rfl (by omega) (by decide) dX7_takesOwn_276 ?_
                refine a_iload (pc := 277) dX7_takesOwn_277 rfl ?_
                refine a_if_eq (pc := 279) (tgt := 326) dX7_takesOwn_279 (by decide) (fun c_279 => ?_) (fun c_279 => ?_)
                · refine a_aload_n (pc := 326) dX7_takesOwn_326 rfl rfl ?_
                  refine a_getr (pc := 327) fl_X7_22 (by assumption) (by decide) (by rfl) dX7_takesOwn_327 ?_
                  refine a_iload_n (pc := 330) dX7_takesOwn_330 rfl rfl ?_
                  refine a_iald (pc := 331)  (by assumption) rfl (by omega) (by decide) dX7_takesOwn_331 ?_
                  refine a_top (y := 3) (by first | exact hk | (simp [up2_eq, upA_upA, upA_ap, up2_upA, upd_ap]; exact hk)) ?_
                  refine a_iconst (pc := 332) (v := 4) dX7_takesOwn_332 (by decide) ?_
                  refine a_icmp_ne (pc := 333) (tgt := 363) dX7_takesOwn_333 (by decide) (fun c_333 => ?_) (fun c_333 => ?_)
                  · refine a_iconst (pc := 363) (v := 0) dX7_takesOwn_363 (by decide) ?_
                    refine a_zret (pc := 364) rfl (by rfl) dX7_takesOwn_364 ?_
                    refine ⟨rfl, ?_, ?_⟩
                    · simp only [up2_eq, upA_upA, up2_upA, upA_at, upA_self]
                    · simp_all [tk3P, nxtP, up2_eq, upA_upA, upA_ap, up2_upA, upd_ap, -Int32.not_lt, -Int32.not_le, -Nat.not_lt]
                  · exact absurd c_333 (by decide)
                · exact absurd c_279 (by decide)
              · exact absurd c_238 (by decide)
            · refine a_aload_n (pc := 184) dX7_takesOwn_184 rfl rfl ?_
              refine a_getr (pc := 185) fl_X7_13 (by assumption) (by decide) (by rfl) dX7_takesOwn_185 ?_
              refine a_iload (pc := 188) dX7_takesOwn_188 rfl ?_
              refine a_bipush (pc := 190) (v := 31) dX7_takesOwn_190 (by decide) ?_
              refine a_iaddN (pc := 192) (a := _) (b := 31) rfl rfl dX7_takesOwn_192 ?_
              refine a_iald (pc := 193)  (by assumption) rfl (by omega) (by decide) dX7_takesOwn_193 ?_
              refine a_aload_n (pc := 194) dX7_takesOwn_194 rfl rfl ?_
              refine a_getr (pc := 195) fl_X7_31 (by assumption) (by decide) (by rfl) dX7_takesOwn_195 ?_
              refine a_iload_n (pc := 198) dX7_takesOwn_198 rfl rfl ?_
              refine a_iald (pc := 199)  (by assumption) rfl (by omega) (by decide) dX7_takesOwn_199 ?_
              refine a_icmp_ne (pc := 200) (tgt := 224) dX7_takesOwn_200 (by decide) (fun c_200 => ?_) (fun c_200 => ?_)
              · refine a_iconst (pc := 224) (v := 0) dX7_takesOwn_224 (by decide) ?_
                refine a_istore (pc := 225) (al' := [some (.ref _), some (.int _), some (.int _), some (.int _), some (.int _), some (.int _), some (.int _), some (.int _)]) dX7_takesOwn_225 (by decide) rfl rfl ?_
                refine a_aload_n (pc := 227) dX7_takesOwn_227 rfl rfl ?_
                refine a_getr (pc := 228) fl_X7_13 (by assumption) (by decide) (by rfl) dX7_takesOwn_228 ?_
                refine a_iload (pc := 231) dX7_takesOwn_231 rfl ?_
                refine a_bipush (pc := 233) (v := 31) dX7_takesOwn_233 (by decide) ?_
                refine a_iaddN (pc := 235) (a := _) (b := 31) rfl rfl dX7_takesOwn_235 ?_
                refine a_iload (pc := 236) dX7_takesOwn_236 rfl ?_
                refine a_if_eq (pc := 238) (tgt := 252) dX7_takesOwn_238 (by decide) (fun c_238 => ?_) (fun c_238 => ?_)
                · refine a_iconst (pc := 252) (v := 0) dX7_takesOwn_252 (by decide) ?_
                  refine a_iast (pc := 253)  (by assumption) rfl (by omega) (by decide) dX7_takesOwn_253 ?_
                  refine a_aload_n (pc := 254) dX7_takesOwn_254 rfl rfl ?_
                  refine a_getr (pc := 255) fl_X7_13 (by assumption) (by decide) (by rfl) dX7_takesOwn_255 ?_
                  refine a_iload (pc := 258) dX7_takesOwn_258 rfl ?_
                  refine a_bipush (pc := 260) (v := 30) dX7_takesOwn_260 (by decide) ?_
                  refine a_iaddN (pc := 262) (a := _) (b := 30) rfl rfl dX7_takesOwn_262 ?_
                  refine a_iload_n (pc := 263) dX7_takesOwn_263 rfl rfl ?_
                  refine a_iast (pc := 264)  (by assumption) rfl (by omega) (by decide) dX7_takesOwn_264 ?_
                  refine a_aload_n (pc := 265) dX7_takesOwn_265 rfl rfl ?_
                  refine a_getr (pc := 266) fl_X7_13 (by assumption) (by decide) (by rfl) dX7_takesOwn_266 ?_
                  refine a_iload (pc := 269) dX7_takesOwn_269 rfl ?_
                  refine a_bipush (pc := 271) (v := 32) dX7_takesOwn_271 (by decide) ?_
                  refine a_iaddN (pc := 273) (a := _) (b := 32) rfl rfl dX7_takesOwn_273 ?_
                  refine a_iload (pc := 274) dX7_takesOwn_274 rfl ?_
                  refine a_iast (pc := 276)  (by assumption) rfl (by omega) (by decide) dX7_takesOwn_276 ?_
                  refine a_iload (pc := 277) dX7_takesOwn_277 rfl ?_
                  refine a_if_eq (pc := 279) (tgt := 326) dX7_takesOwn_279 (by decide) (fun c_279 => ?_) (fun c_279 => ?_)
                  · refine a_aload_n (pc := 326) dX7_takesOwn_326 rfl rfl ?_
                    refine a_getr (pc := 327) fl_X7_22 (by assumption) (by decide) (by rfl) dX7_takesOwn_327 ?_
                    refine a_iload_n (pc := 330) dX7_takesOwn_330 rfl rfl ?_
                    refine a_iald (pc := 331)  (by assumption) rfl (by omega) (by decide) dX7_takesOwn_331 ?_
                    refine a_top (y := 3) (by first | exact hk | (simp [up2_eq, upA_upA, upA_ap, up2_upA, upd_ap]; exact hk)) ?_
                    refine a_iconst (pc := 332) (v := 4) dX7_takesOwn_332 (by decide) ?_
                    refine a_icmp_ne (pc := 333) (tgt := 363) dX7_takesOwn_333 (by decide) (fun c_333 => ?_) (fun c_333 => ?_)
                    · refine a_iconst (pc := 363) (v := 0) dX7_takesOwn_363 (by decide) ?_
                      refine a_zret (pc := 364) rfl (by rfl) dX7_takesOwn_364 ?_
                      refine ⟨rfl, ?_, ?_⟩
                      · simp only [up2_eq, upA_upA, up2_upA, upA_at, upA_self]
                      · simp_all [tk3P, nxtP, up2_eq, upA_upA, upA_ap, up2_upA, upd_ap, -Int32.not_lt, -Int32.not_le, -Nat.not_lt]
                    · exact absurd c_333 (by decide)
                  · exact absurd c_279 (by decide)
                · exact absurd c_238 (by decide)
              · refine a_aload_n (pc := 203) dX7_takesOwn_203 rfl rfl ?_
                refine a_getr (pc := 204) fl_X7_13 (by assumption) (by decide) (by rfl) dX7_takesOwn_204 ?_
                refine a_iload (pc := 207) dX7_takesOwn_207 rfl ?_
                refine a_bipush (pc := 209) (v := 32) dX7_takesOwn_209 (by decide) ?_
                refine a_iaddN (pc := 211) (a := _) (b := 32) rfl rfl dX7_takesOwn_211 ?_
                refine a_iald (pc := 212)  (by assumption) rfl (by omega) (by decide) dX7_takesOwn_212 ?_
                refine a_iload (pc := 213) dX7_takesOwn_213 rfl ?_
                refine a_iconst (pc := 215) (v := 1) dX7_takesOwn_215 (by decide) ?_
                refine a_isub (pc := 216) dX7_takesOwn_216 ?_
                refine a_icmp_ne (pc := 217) (tgt := 224) dX7_takesOwn_217 (by decide) (fun c_217 => ?_) (fun c_217 => ?_)
                · refine a_iconst (pc := 224) (v := 0) dX7_takesOwn_224 (by decide) ?_
                  refine a_istore (pc := 225) (al' := [some (.ref _), some (.int _), some (.int _), some (.int _), some (.int _), some (.int _), some (.int _), some (.int _)]) dX7_takesOwn_225 (by decide) rfl rfl ?_
                  refine a_aload_n (pc := 227) dX7_takesOwn_227 rfl rfl ?_
                  refine a_getr (pc := 228) fl_X7_13 (by assumption) (by decide) (by rfl) dX7_takesOwn_228 ?_
                  refine a_iload (pc := 231) dX7_takesOwn_231 rfl ?_
                  refine a_bipush (pc := 233) (v := 31) dX7_takesOwn_233 (by decide) ?_
                  refine a_iaddN (pc := 235) (a := _) (b := 31) rfl rfl dX7_takesOwn_235 ?_
                  refine a_iload (pc := 236) dX7_takesOwn_236 rfl ?_
                  refine a_if_eq (pc := 238) (tgt := 252) dX7_takesOwn_238 (by decide) (fun c_238 => ?_) (fun c_238 => ?_)
                  · refine a_iconst (pc := 252) (v := 0) dX7_takesOwn_252 (by decide) ?_
                    refine a_iast (pc := 253)  (by assumption) rfl (by omega) (by decide) dX7_takesOwn_253 ?_
                    refine a_aload_n (pc := 254) dX7_takesOwn_254 rfl rfl ?_
                    refine a_getr (pc := 255) fl_X7_13 (by assumption) (by decide) (by rfl) dX7_takesOwn_255 ?_
                    refine a_iload (pc := 258) dX7_takesOwn_258 rfl ?_
                    refine a_bipush (pc := 260) (v := 30) dX7_takesOwn_260 (by decide) ?_
                    refine a_iaddN (pc := 262) (a := _) (b := 30) rfl rfl dX7_takesOwn_262 ?_
                    refine a_iload_n (pc := 263) dX7_takesOwn_263 rfl rfl ?_
                    refine a_iast (pc := 264)  (by assumption) rfl (by omega) (by decide) dX7_takesOwn_264 ?_
                    refine a_aload_n (pc := 265) dX7_takesOwn_265 rfl rfl ?_
                    refine a_getr (pc := 266) fl_X7_13 (by assumption) (by decide) (by rfl) dX7_takesOwn_266 ?_
                    refine a_iload (pc := 269) dX7_takesOwn_269 rfl ?_
                    refine a_bipush (pc := 271) (v := 32) dX7_takesOwn_271 (by decide) ?_
                    refine a_iaddN (pc := 273) (a := _) (b := 32) rfl rfl dX7_takesOwn_273 ?_
                    refine a_iload (pc := 274) dX7_takesOwn_274 rfl ?_
                    refine a_iast (pc := 276)  (by assumption) rfl (by omega) (by decide) dX7_takesOwn_276 ?_
                    refine a_iload (pc := 277) dX7_takesOwn_277 rfl ?_
                    refine a_if_eq (pc := 279) (tgt := 326) dX7_takesOwn_279 (by decide) (fun c_279 => ?_) (fun c_279 => ?_)
                    · refine a_aload_n (pc := 326) dX7_takesOwn_326 rfl rfl ?_
                      refine a_getr (pc := 327) fl_X7_22 (by assumption) (by decide) (by rfl) dX7_takesOwn_327 ?_
                      refine a_iload_n (pc := 330) dX7_takesOwn_330 rfl rfl ?_
                      refine a_iald (pc := 331)  (by assumption) rfl (by omega) (by decide) dX7_takesOwn_331 ?_
                      refine a_top (y := 3) (by first | exact hk | (simp [up2_eq, upA_upA, upA_ap, up2_upA, upd_ap]; exact hk)) ?_
                      refine a_iconst (pc := 332) (v := 4) dX7_takesOwn_332 (by decide) ?_
                      refine a_icmp_ne (pc := 333) (tgt := 363) dX7_takesOwn_333 (by decide) (fun c_333 => ?_) (fun c_333 => ?_)
                      · refine a_iconst (pc := 363) (v := 0) dX7_takesOwn_363 (by decide) ?_
                        refine a_zret (pc := 364) rfl (by rfl) dX7_takesOwn_364 ?_
                        refine ⟨rfl, ?_, ?_⟩
                        · simp only [up2_eq, upA_upA, up2_upA, upA_at, upA_self]
                        · simp_all [tk3P, nxtP, up2_eq, upA_upA, upA_ap, up2_upA, upd_ap, -Int32.not_lt, -Int32.not_le, -Nat.not_lt]
                      · exact absurd c_333 (by decide)
                    · exact absurd c_279 (by decide)
                  · exact absurd c_238 (by decide)
                · refine a_iconst (pc := 220) (v := 1) dX7_takesOwn_220 (by decide) ?_
                  refine a_goto (pc := 221) (tgt := 225) dX7_takesOwn_221 (by decide) ?_
                  refine a_istore (pc := 225) (al' := [some (.ref _), some (.int _), some (.int _), some (.int _), some (.int _), some (.int _), some (.int _), some (.int _)]) dX7_takesOwn_225 (by decide) rfl rfl ?_
                  refine a_aload_n (pc := 227) dX7_takesOwn_227 rfl rfl ?_
                  refine a_getr (pc := 228) fl_X7_13 (by assumption) (by decide) (by rfl) dX7_takesOwn_228 ?_
                  refine a_iload (pc := 231) dX7_takesOwn_231 rfl ?_
                  refine a_bipush (pc := 233) (v := 31) dX7_takesOwn_233 (by decide) ?_
                  refine a_iaddN (pc := 235) (a := _) (b := 31) rfl rfl dX7_takesOwn_235 ?_
                  refine a_iload (pc := 236) dX7_takesOwn_236 rfl ?_
                  refine a_if_eq (pc := 238) (tgt := 252) dX7_takesOwn_238 (by decide) (fun c_238 => ?_) (fun c_238 => ?_)
                  · exact absurd c_238 (by decide)
                  · refine a_aload_n (pc := 241) dX7_takesOwn_241 rfl rfl ?_
                    refine a_getr (pc := 242) fl_X7_31 (by assumption) (by decide) (by rfl) dX7_takesOwn_242 ?_
                    refine a_iload_n (pc := 245) dX7_takesOwn_245 rfl rfl ?_
                    refine a_iald (pc := 246)  (by assumption) rfl (by omega) (by decide) dX7_takesOwn_246 ?_
                    refine a_iconst (pc := 247) (v := 1) dX7_takesOwn_247 (by decide) ?_
                    refine a_iadd (pc := 248) dX7_takesOwn_248 ?_
                    refine a_goto (pc := 249) (tgt := 253) dX7_takesOwn_249 (by decide) ?_
                    refine a_iast (pc := 253)  (by assumption) rfl (by omega) (by decide) dX7_takesOwn_253 ?_
                    refine a_aload_n (pc := 254) dX7_takesOwn_254 rfl rfl ?_
                    refine a_getr (pc := 255) fl_X7_13 (by assumption) (by decide) (by rfl) dX7_takesOwn_255 ?_
                    refine a_iload (pc := 258) dX7_takesOwn_258 rfl ?_
                    refine a_bipush (pc := 260) (v := 30) dX7_takesOwn_260 (by decide) ?_
                    refine a_iaddN (pc := 262) (a := _) (b := 30) rfl rfl dX7_takesOwn_262 ?_
                    refine a_iload_n (pc := 263) dX7_takesOwn_263 rfl rfl ?_
                    refine a_iast (pc := 264)  (by assumption) rfl (by omega) (by decide) dX7_takesOwn_264 ?_
                    refine a_aload_n (pc := 265) dX7_takesOwn_265 rfl rfl ?_
                    refine a_getr (pc := 266) fl_X7_13 (by assumption) (by decide) (by rfl) dX7_takesOwn_266 ?_
                    refine a_iload (pc := 269) dX7_takesOwn_269 rfl ?_
                    refine a_bipush (pc := 271) (v := 32) dX7_takesOwn_271 (by decide) ?_
                    refine a_iaddN (pc := 273) (a := _) (b := 32) rfl rfl dX7_takesOwn_273 ?_
                    refine a_iload (pc := 274) dX7_takesOwn_274 rfl ?_
                    refine a_iast (pc := 276)  (by assumption) rfl (by omega) (by decide) dX7_takesOwn_276 ?_
                    refine a_iload (pc := 277) dX7_takesOwn_277 rfl ?_
                    refine a_if_eq (pc := 279) (tgt := 326) dX7_takesOwn_279 (by decide) (fun c_279 => ?_) (fun c_279 => ?_)
                    · exact absurd c_279 (by decide)
                    · refine a_aload_n (pc := 282) dX7_takesOwn_282 rfl rfl ?_
                      refine a_getr (pc := 283) fl_X7_31 (by assumption) (by decide) (by rfl) dX7_takesOwn_283 ?_
                      refine a_iload_n (pc := 286) dX7_takesOwn_286 rfl rfl ?_
                      refine a_iald (pc := 287)  (by assumption) rfl (by omega) (by decide) dX7_takesOwn_287 ?_
                      refine a_iconst (pc := 288) (v := 1) dX7_takesOwn_288 (by decide) ?_
                      refine a_iadd (pc := 289) dX7_takesOwn_289 ?_
                      refine a_aload_n (pc := 290) dX7_takesOwn_290 rfl rfl ?_
                      refine a_getr (pc := 291) fl_X7_28 (by assumption) (by decide) (by rfl) dX7_takesOwn_291 ?_
                      refine a_iload_n (pc := 294) dX7_takesOwn_294 rfl rfl ?_
                      refine a_iald (pc := 295)  (by assumption) rfl (by omega) (by decide) dX7_takesOwn_295 ?_
                      refine a_icmp_ne (pc := 296) (tgt := 326) dX7_takesOwn_296 (by decide) (fun c_296 => ?_) (fun c_296 => ?_)
                      · refine a_aload_n (pc := 326) dX7_takesOwn_326 rfl rfl ?_
                        refine a_getr (pc := 327) fl_X7_22 (by assumption) (by decide) (by rfl) dX7_takesOwn_327 ?_
                        refine a_iload_n (pc := 330) dX7_takesOwn_330 rfl rfl ?_
                        refine a_iald (pc := 331)  (by assumption) rfl (by omega) (by decide) dX7_takesOwn_331 ?_
                        refine a_top (y := 3) (by first | exact hk | (simp [up2_eq, upA_upA, upA_ap, up2_upA, upd_ap]; exact hk)) ?_
                        refine a_iconst (pc := 332) (v := 4) dX7_takesOwn_332 (by decide) ?_
                        refine a_icmp_ne (pc := 333) (tgt := 363) dX7_takesOwn_333 (by decide) (fun c_333 => ?_) (fun c_333 => ?_)
                        · refine a_iconst (pc := 363) (v := 0) dX7_takesOwn_363 (by decide) ?_
                          refine a_zret (pc := 364) rfl (by rfl) dX7_takesOwn_364 ?_
                          refine ⟨rfl, ?_, ?_⟩
                          · simp only [up2_eq, upA_upA, up2_upA, upA_at, upA_self]
                          · simp_all [tk3P, nxtP, up2_eq, upA_upA, upA_ap, up2_upA, upd_ap, -Int32.not_lt, -Int32.not_le, -Nat.not_lt]
                        · exact absurd c_333 (by decide)
                      · refine a_aload_n (pc := 299) dX7_takesOwn_299 rfl rfl ?_
                        refine a_getr (pc := 300) fl_X7_13 (by assumption) (by decide) (by rfl) dX7_takesOwn_300 ?_
                        refine a_iload (pc := 303) dX7_takesOwn_303 rfl ?_
                        refine a_bipush (pc := 305) (v := 24) dX7_takesOwn_305 (by decide) ?_
                        refine a_iaddN (pc := 307) (a := _) (b := 24) rfl rfl dX7_takesOwn_307 ?_
                        refine a_iload (pc := 308) dX7_takesOwn_308 rfl ?_
                        refine a_iconst (pc := 310) (v := 1) dX7_takesOwn_310 (by decide) ?_
                        refine a_iadd (pc := 311) dX7_takesOwn_311 ?_
                        refine a_iast (pc := 312)  (by assumption) rfl (by omega) (by decide) dX7_takesOwn_312 ?_
                        refine a_aload_n (pc := 313) dX7_takesOwn_313 rfl rfl ?_
                        refine a_getr (pc := 314) fl_X7_13 (by assumption) (by decide) (by rfl) dX7_takesOwn_314 ?_
                        refine a_iload (pc := 317) dX7_takesOwn_317 rfl ?_
                        refine a_bipush (pc := 319) (v := 24) dX7_takesOwn_319 (by decide) ?_
                        refine a_iaddN (pc := 321) (a := _) (b := 24) rfl rfl dX7_takesOwn_321 ?_
                        refine a_iconst (pc := 322) (v := 1) dX7_takesOwn_322 (by decide) ?_
                        refine a_iaddN (pc := 323) (a := _) (b := 1) rfl rfl dX7_takesOwn_323 ?_
                        refine a_iload_n (pc := 324) dX7_takesOwn_324 rfl rfl ?_
                        refine a_iast (pc := 325)  (by assumption) rfl (by omega) (by decide) dX7_takesOwn_325 ?_
                        refine a_aload_n (pc := 326) dX7_takesOwn_326 rfl rfl ?_
                        refine a_getr (pc := 327) fl_X7_22 (by assumption) (by decide) (by rfl) dX7_takesOwn_327 ?_
                        refine a_iload_n (pc := 330) dX7_takesOwn_330 rfl rfl ?_
                        refine a_iald (pc := 331)  (by assumption) rfl (by omega) (by decide) dX7_takesOwn_331 ?_
                        refine a_top (y := 3) (by first | exact hk | (simp [up2_eq, upA_upA, upA_ap, up2_upA, upd_ap]; exact hk)) ?_
                        refine a_iconst (pc := 332) (v := 4) dX7_takesOwn_332 (by decide) ?_
                        refine a_icmp_ne (pc := 333) (tgt := 363) dX7_takesOwn_333 (by decide) (fun c_333 => ?_) (fun c_333 => ?_)
                        · refine a_iconst (pc := 363) (v := 0) dX7_takesOwn_363 (by decide) ?_
                          refine a_zret (pc := 364) rfl (by rfl) dX7_takesOwn_364 ?_
                          refine ⟨rfl, ?_, ?_⟩
                          · simp only [up2_eq, upA_upA, up2_upA, upA_at, upA_self]
                          · simp_all [tk3P, nxtP, up2_eq, upA_upA, upA_ap, up2_upA, upd_ap, -Int32.not_lt, -Int32.not_le, -Nat.not_lt]
                        · exact absurd c_333 (by decide)
      · exact absurd c_105 (by decide)
    · exact absurd c_36 (by decide)
  · refine a_iconst (pc := 22) (v := 1) dX7_takesOwn_22 (by decide) ?_
    refine a_goto (pc := 23) (tgt := 27) dX7_takesOwn_23 (by decide) ?_
    refine a_istore (pc := 27) (al' := [some (.ref _), some (.int _), some (.int _), some (.int _), some (.int _), some (.int _), some (.int _), none]) dX7_takesOwn_27 (by decide) rfl rfl ?_
    refine a_aload_n (pc := 29) dX7_takesOwn_29 rfl rfl ?_
    refine a_getr (pc := 30) fl_X7_22 (by assumption) (by decide) (by rfl) dX7_takesOwn_30 ?_
    refine a_iload_n (pc := 33) dX7_takesOwn_33 rfl rfl ?_
    refine a_iald (pc := 34)  (by assumption) rfl (by omega) (by decide) dX7_takesOwn_34 ?_
    refine a_top (y := 3) (by first | exact hk | (simp [up2_eq, upA_upA, upA_ap, up2_upA, upd_ap]; exact hk)) ?_
    refine a_iconst (pc := 35) (v := 1) dX7_takesOwn_35 (by decide) ?_
    refine a_icmp_ne (pc := 36) (tgt := 98) dX7_takesOwn_36 (by decide) (fun c_36 => ?_) (fun c_36 => ?_)
    · refine a_aload_n (pc := 98) dX7_takesOwn_98 rfl rfl ?_
      refine a_getr (pc := 99) fl_X7_22 (by assumption) (by decide) (by rfl) dX7_takesOwn_99 ?_
      refine a_iload_n (pc := 102) dX7_takesOwn_102 rfl rfl ?_
      refine a_iald (pc := 103)  (by assumption) rfl (by omega) (by decide) dX7_takesOwn_103 ?_
      refine a_top (y := 3) (by first | exact hk | (simp [up2_eq, upA_upA, upA_ap, up2_upA, upd_ap]; exact hk)) ?_
      refine a_iconst (pc := 104) (v := 2) dX7_takesOwn_104 (by decide) ?_
      refine a_icmp_ne (pc := 105) (tgt := 151) dX7_takesOwn_105 (by decide) (fun c_105 => ?_) (fun c_105 => ?_)
      · refine a_aload_n (pc := 151) dX7_takesOwn_151 rfl rfl ?_
        refine a_getr (pc := 152) fl_X7_22 (by assumption) (by decide) (by rfl) dX7_takesOwn_152 ?_
        refine a_iload_n (pc := 155) dX7_takesOwn_155 rfl rfl ?_
        refine a_iald (pc := 156)  (by assumption) rfl (by omega) (by decide) dX7_takesOwn_156 ?_
        refine a_top (y := 3) (by first | exact hk | (simp [up2_eq, upA_upA, upA_ap, up2_upA, upd_ap]; exact hk)) ?_
        refine a_iconst (pc := 157) (v := 3) dX7_takesOwn_157 (by decide) ?_
        refine a_icmp_ne (pc := 158) (tgt := 326) dX7_takesOwn_158 (by decide) (fun c_158 => ?_) (fun c_158 => ?_)
        · exact absurd c_158 (by decide)
        · refine a_aload_n (pc := 161) dX7_takesOwn_161 rfl rfl ?_
          refine a_getr (pc := 162) fl_X7_31 (by assumption) (by decide) (by rfl) dX7_takesOwn_162 ?_
          refine a_iload_n (pc := 165) dX7_takesOwn_165 rfl rfl ?_
          refine a_iald (pc := 166)  (by assumption) rfl (by omega) (by decide) dX7_takesOwn_166 ?_
          refine a_if_eq (pc := 167) (tgt := 220) dX7_takesOwn_167 (by decide) (fun c_167 => ?_) (fun c_167 => ?_)
          · refine a_iconst (pc := 220) (v := 1) dX7_takesOwn_220 (by decide) ?_
            refine a_goto (pc := 221) (tgt := 225) dX7_takesOwn_221 (by decide) ?_
            refine a_istore (pc := 225) (al' := [some (.ref _), some (.int _), some (.int _), some (.int _), some (.int _), some (.int _), some (.int _), some (.int _)]) dX7_takesOwn_225 (by decide) rfl rfl ?_
            refine a_aload_n (pc := 227) dX7_takesOwn_227 rfl rfl ?_
            refine a_getr (pc := 228) fl_X7_13 (by assumption) (by decide) (by rfl) dX7_takesOwn_228 ?_
            refine a_iload (pc := 231) dX7_takesOwn_231 rfl ?_
            refine a_bipush (pc := 233) (v := 31) dX7_takesOwn_233 (by decide) ?_
            refine a_iaddN (pc := 235) (a := _) (b := 31) rfl rfl dX7_takesOwn_235 ?_
            refine a_iload (pc := 236) dX7_takesOwn_236 rfl ?_
            refine a_if_eq (pc := 238) (tgt := 252) dX7_takesOwn_238 (by decide) (fun c_238 => ?_) (fun c_238 => ?_)
            · exact absurd c_238 (by decide)
            · refine a_aload_n (pc := 241) dX7_takesOwn_241 rfl rfl ?_
              refine a_getr (pc := 242) fl_X7_31 (by assumption) (by decide) (by rfl) dX7_takesOwn_242 ?_
              refine a_iload_n (pc := 245) dX7_takesOwn_245 rfl rfl ?_
              refine a_iald (pc := 246)  (by assumption) rfl (by omega) (by decide) dX7_takesOwn_246 ?_
              refine a_iconst (pc := 247) (v := 1) dX7_takesOwn_247 (by decide) ?_
              refine a_iadd (pc := 248) dX7_takesOwn_248 ?_
              refine a_goto (pc := 249) (tgt := 253) dX7_takesOwn_249 (by decide) ?_
              refine a_iast (pc := 253)  (by assumption) rfl (by omega) (by decide) dX7_takesOwn_253 ?_
              refine a_aload_n (pc := 254) dX7_takesOwn_254 rfl rfl ?_
              refine a_getr (pc := 255) fl_X7_13 (by assumption) (by decide) (by rfl) dX7_takesOwn_255 ?_
              refine a_iload (pc := 258) dX7_takesOwn_258 rfl ?_
              refine a_bipush (pc := 260) (v := 30) dX7_takesOwn_260 (by decide) ?_
              refine a_iaddN (pc := 262) (a := _) (b := 30) rfl rfl dX7_takesOwn_262 ?_
              refine a_iload_n (pc := 263) dX7_takesOwn_263 rfl rfl ?_
              refine a_iast (pc := 264)  (by assumption) rfl (by omega) (by decide) dX7_takesOwn_264 ?_
              refine a_aload_n (pc := 265) dX7_takesOwn_265 rfl rfl ?_
              refine a_getr (pc := 266) fl_X7_13 (by assumption) (by decide) (by rfl) dX7_takesOwn_266 ?_
              refine a_iload (pc := 269) dX7_takesOwn_269 rfl ?_
              refine a_bipush (pc := 271) (v := 32) dX7_takesOwn_271 (by decide) ?_
              refine a_iaddN (pc := 273) (a := _) (b := 32) rfl rfl dX7_takesOwn_273 ?_
              refine a_iload (pc := 274) dX7_takesOwn_274 rfl ?_
              refine a_iast (pc := 276)  (by assumption) rfl (by omega) (by decide) dX7_takesOwn_276 ?_
              refine a_iload (pc := 277) dX7_takesOwn_277 rfl ?_
              refine a_if_eq (pc := 279) (tgt := 326) dX7_takesOwn_279 (by decide) (fun c_279 => ?_) (fun c_279 => ?_)
              · exact absurd c_279 (by decide)
              · refine a_aload_n (pc := 282) dX7_takesOwn_282 rfl rfl ?_
                refine a_getr (pc := 283) fl_X7_31 (by assumption) (by decide) (by rfl) dX7_takesOwn_283 ?_
                refine a_iload_n (pc := 286) dX7_takesOwn_286 rfl rfl ?_
                refine a_iald (pc := 287)  (by assumption) rfl (by omega) (by decide) dX7_takesOwn_287 ?_
                refine a_iconst (pc := 288) (v := 1) dX7_takesOwn_288 (by decide) ?_
                refine a_iadd (pc := 289) dX7_takesOwn_289 ?_
                refine a_aload_n (pc := 290) dX7_takesOwn_290 rfl rfl ?_
                refine a_getr (pc := 291) fl_X7_28 (by assumption) (by decide) (by rfl) dX7_takesOwn_291 ?_
                refine a_iload_n (pc := 294) dX7_takesOwn_294 rfl rfl ?_
                refine a_iald (pc := 295)  (by assumption) rfl (by omega) (by decide) dX7_takesOwn_295 ?_
                refine a_icmp_ne (pc := 296) (tgt := 326) dX7_takesOwn_296 (by decide) (fun c_296 => ?_) (fun c_296 => ?_)
                · refine a_aload_n (pc := 326) dX7_takesOwn_326 rfl rfl ?_
                  refine a_getr (pc := 327) fl_X7_22 (by assumption) (by decide) (by rfl) dX7_takesOwn_327 ?_
                  refine a_iload_n (pc := 330) dX7_takesOwn_330 rfl rfl ?_
                  refine a_iald (pc := 331)  (by assumption) rfl (by omega) (by decide) dX7_takesOwn_331 ?_
                  refine a_top (y := 3) (by first | exact hk | (simp [up2_eq, upA_upA, upA_ap, up2_upA, upd_ap]; exact hk)) ?_
                  refine a_iconst (pc := 332) (v := 4) dX7_takesOwn_332 (by decide) ?_
                  refine a_icmp_ne (pc := 333) (tgt := 363) dX7_takesOwn_333 (by decide) (fun c_333 => ?_) (fun c_333 => ?_)
                  · refine a_iconst (pc := 363) (v := 0) dX7_takesOwn_363 (by decide) ?_
                    refine a_zret (pc := 364) rfl (by rfl) dX7_takesOwn_364 ?_
                    refine ⟨rfl, ?_, ?_⟩
                    · simp only [up2_eq, upA_upA, up2_upA, upA_at, upA_self]
                    · simp_all [tk3P, nxtP, up2_eq, upA_upA, upA_ap, up2_upA, upd_ap, -Int32.not_lt, -Int32.not_le, -Nat.not_lt]
                  · exact absurd c_333 (by decide)
                · refine a_aload_n (pc := 299) dX7_takesOwn_299 rfl rfl ?_
                  refine a_getr (pc := 300) fl_X7_13 (by assumption) (by decide) (by rfl) dX7_takesOwn_300 ?_
                  refine a_iload (pc := 303) dX7_takesOwn_303 rfl ?_
                  refine a_bipush (pc := 305) (v := 24) dX7_takesOwn_305 (by decide) ?_
                  refine a_iaddN (pc := 307) (a := _) (b := 24) rfl rfl dX7_takesOwn_307 ?_
                  refine a_iload (pc := 308) dX7_takesOwn_308 rfl ?_
                  refine a_iconst (pc := 310) (v := 1) dX7_takesOwn_310 (by decide) ?_
                  refine a_iadd (pc := 311) dX7_takesOwn_311 ?_
                  refine a_iast (pc := 312)  (by assumption) rfl (by omega) (by decide) dX7_takesOwn_312 ?_
                  refine a_aload_n (pc := 313) dX7_takesOwn_313 rfl rfl ?_
                  refine a_getr (pc := 314) fl_X7_13 (by assumption) (by decide) (by rfl) dX7_takesOwn_314 ?_
                  refine a_iload (pc := 317) dX7_takesOwn_317 rfl ?_
                  refine a_bipush (pc := 319) (v := 24) dX7_takesOwn_319 (by decide) ?_
                  refine a_iaddN (pc := 321) (a := _) (b := 24) rfl rfl dX7_takesOwn_321 ?_
                  refine a_iconst (pc := 322) (v := 1) dX7_takesOwn_322 (by decide) ?_
                  refine a_iaddN (pc := 323) (a := _) (b := 1) rfl rfl dX7_takesOwn_323 ?_
                  refine a_iload_n (pc := 324) dX7_takesOwn_324 rfl rfl ?_
                  refine a_iast (pc := 325)  (by assumption) rfl (by omega) (by decide) dX7_takesOwn_325 ?_
                  refine a_aload_n (pc := 326) dX7_takesOwn_326 rfl rfl ?_
                  refine a_getr (pc := 327) fl_X7_22 (by assumption) (by decide) (by rfl) dX7_takesOwn_327 ?_
                  refine a_iload_n (pc := 330) dX7_takesOwn_330 rfl rfl ?_
                  refine a_iald (pc := 331)  (by assumption) rfl (by omega) (by decide) dX7_takesOwn_331 ?_
                  refine a_top (y := 3) (by first | exact hk | (simp [up2_eq, upA_upA, upA_ap, up2_upA, upd_ap]; exact hk)) ?_
                  refine a_iconst (pc := 332) (v := 4) dX7_takesOwn_332 (by decide) ?_
                  refine a_icmp_ne (pc := 333) (tgt := 363) dX7_takesOwn_333 (by decide) (fun c_333 => ?_) (fun c_333 => ?_)
                  · refine a_iconst (pc := 363) (v := 0) dX7_takesOwn_363 (by decide) ?_
                    refine a_zret (pc := 364) rfl (by rfl) dX7_takesOwn_364 ?_
                    refine ⟨rfl, ?_, ?_⟩
                    · simp only [up2_eq, upA_upA, up2_upA, upA_at, upA_self]
                    · simp_all [tk3P, nxtP, up2_eq, upA_upA, upA_ap, up2_upA, upd_ap, -Int32.not_lt, -Int32.not_le, -Nat.not_lt]
                  · exact absurd c_333 (by decide)
          · refine a_aload_n (pc := 170) dX7_takesOwn_170 rfl rfl ?_
            refine a_getr (pc := 171) fl_X7_13 (by assumption) (by decide) (by rfl) dX7_takesOwn_171 ?_
            refine a_iload (pc := 174) dX7_takesOwn_174 rfl ?_
            refine a_bipush (pc := 176) (v := 30) dX7_takesOwn_176 (by decide) ?_
            refine a_iaddN (pc := 178) (a := _) (b := 30) rfl rfl dX7_takesOwn_178 ?_
            refine a_iald (pc := 179)  (by assumption) rfl (by omega) (by decide) dX7_takesOwn_179 ?_
            refine a_iload_n (pc := 180) dX7_takesOwn_180 rfl rfl ?_
            refine a_icmp_ne (pc := 181) (tgt := 224) dX7_takesOwn_181 (by decide) (fun c_181 => ?_) (fun c_181 => ?_)
            · refine a_iconst (pc := 224) (v := 0) dX7_takesOwn_224 (by decide) ?_
              refine a_istore (pc := 225) (al' := [some (.ref _), some (.int _), some (.int _), some (.int _), some (.int _), some (.int _), some (.int _), some (.int _)]) dX7_takesOwn_225 (by decide) rfl rfl ?_
              refine a_aload_n (pc := 227) dX7_takesOwn_227 rfl rfl ?_
              refine a_getr (pc := 228) fl_X7_13 (by assumption) (by decide) (by rfl) dX7_takesOwn_228 ?_
              refine a_iload (pc := 231) dX7_takesOwn_231 rfl ?_
              refine a_bipush (pc := 233) (v := 31) dX7_takesOwn_233 (by decide) ?_
              refine a_iaddN (pc := 235) (a := _) (b := 31) rfl rfl dX7_takesOwn_235 ?_
              refine a_iload (pc := 236) dX7_takesOwn_236 rfl ?_
              refine a_if_eq (pc := 238) (tgt := 252) dX7_takesOwn_238 (by decide) (fun c_238 => ?_) (fun c_238 => ?_)
              · refine a_iconst (pc := 252) (v := 0) dX7_takesOwn_252 (by decide) ?_
                refine a_iast (pc := 253)  (by assumption) rfl (by omega) (by decide) dX7_takesOwn_253 ?_
                refine a_aload_n (pc := 254) dX7_takesOwn_254 rfl rfl ?_
                refine a_getr (pc := 255) fl_X7_13 (by assumption) (by decide) (by rfl) dX7_takesOwn_255 ?_
                refine a_iload (pc := 258) dX7_takesOwn_258 rfl ?_
                refine a_bipush (pc := 260) (v := 30) dX7_takesOwn_260 (by decide) ?_
                refine a_iaddN (pc := 262) (a := _) (b := 30) rfl rfl dX7_takesOwn_262 ?_
                refine a_iload_n (pc := 263) dX7_takesOwn_263 rfl rfl ?_
                refine a_iast (pc := 264)  (by assumption) rfl (by omega) (by decide) dX7_takesOwn_264 ?_
                refine a_aload_n (pc := 265) dX7_takesOwn_265 rfl rfl ?_
                refine a_getr (pc := 266) fl_X7_13 (by assumption) (by decide) (by rfl) dX7_takesOwn_266 ?_
                refine a_iload (pc := 269) dX7_takesOwn_269 rfl ?_
                refine a_bipush (pc := 271) (v := 32) dX7_takesOwn_271 (by decide) ?_
                refine a_iaddN (pc := 273) (a := _) (b := 32) rfl rfl dX7_takesOwn_273 ?_
                refine a_iload (pc := 274) dX7_takesOwn_274 rfl ?_
                refine a_iast (pc := 276)  (by assumption) rfl (by omega) (by decide) dX7_takesOwn_276 ?_
                refine a_iload (pc := 277) dX7_takesOwn_277 rfl ?_
                refine a_if_eq (pc := 279) (tgt := 326) dX7_takesOwn_279 (by decide) (fun c_279 => ?_) (fun c_279 => ?_)
                · refine a_aload_n (pc := 326) dX7_takesOwn_326 rfl rfl ?_
                  refine a_getr (pc := 327) fl_X7_22 (by assumption) (by decide) (by rfl) dX7_takesOwn_327 ?_
                  refine a_iload_n (pc := 330) dX7_takesOwn_330 rfl rfl ?_
                  refine a_iald (pc := 331)  (by assumption) rfl (by omega) (by decide) dX7_takesOwn_331 ?_
                  refine a_top (y := 3) (by first | exact hk | (simp [up2_eq, upA_upA, upA_ap, up2_upA, upd_ap]; exact hk)) ?_
                  refine a_iconst (pc := 332) (v := 4) dX7_takesOwn_332 (by decide) ?_
                  refine a_icmp_ne (pc := 333) (tgt := 363) dX7_takesOwn_333 (by decide) (fun c_333 => ?_) (fun c_333 => ?_)
                  · refine a_iconst (pc := 363) (v := 0) dX7_takesOwn_363 (by decide) ?_
                    refine a_zret (pc := 364) rfl (by rfl) dX7_takesOwn_364 ?_
                    refine ⟨rfl, ?_, ?_⟩
                    · simp only [up2_eq, upA_upA, up2_upA, upA_at, upA_self]
                    · simp_all [tk3P, nxtP, up2_eq, upA_upA, upA_ap, up2_upA, upd_ap, -Int32.not_lt, -Int32.not_le, -Nat.not_lt]
                  · exact absurd c_333 (by decide)
                · exact absurd c_279 (by decide)
              · exact absurd c_238 (by decide)
            · refine a_aload_n (pc := 184) dX7_takesOwn_184 rfl rfl ?_
              refine a_getr (pc := 185) fl_X7_13 (by assumption) (by decide) (by rfl) dX7_takesOwn_185 ?_
              refine a_iload (pc := 188) dX7_takesOwn_188 rfl ?_
              refine a_bipush (pc := 190) (v := 31) dX7_takesOwn_190 (by decide) ?_
              refine a_iaddN (pc := 192) (a := _) (b := 31) rfl rfl dX7_takesOwn_192 ?_
              refine a_iald (pc := 193)  (by assumption) rfl (by omega) (by decide) dX7_takesOwn_193 ?_
              refine a_aload_n (pc := 194) dX7_takesOwn_194 rfl rfl ?_
              refine a_getr (pc := 195) fl_X7_31 (by assumption) (by decide) (by rfl) dX7_takesOwn_195 ?_
              refine a_iload_n (pc := 198) dX7_takesOwn_198 rfl rfl ?_
              refine a_iald (pc := 199)  (by assumption) rfl (by omega) (by decide) dX7_takesOwn_199 ?_
              refine a_icmp_ne (pc := 200) (tgt := 224) dX7_takesOwn_200 (by decide) (fun c_200 => ?_) (fun c_200 => ?_)
              · refine a_iconst (pc := 224) (v := 0) dX7_takesOwn_224 (by decide) ?_
                refine a_istore (pc := 225) (al' := [some (.ref _), some (.int _), some (.int _), some (.int _), some (.int _), some (.int _), some (.int _), some (.int _)]) dX7_takesOwn_225 (by decide) rfl rfl ?_
                refine a_aload_n (pc := 227) dX7_takesOwn_227 rfl rfl ?_
                refine a_getr (pc := 228) fl_X7_13 (by assumption) (by decide) (by rfl) dX7_takesOwn_228 ?_
                refine a_iload (pc := 231) dX7_takesOwn_231 rfl ?_
                refine a_bipush (pc := 233) (v := 31) dX7_takesOwn_233 (by decide) ?_
                refine a_iaddN (pc := 235) (a := _) (b := 31) rfl rfl dX7_takesOwn_235 ?_
                refine a_iload (pc := 236) dX7_takesOwn_236 rfl ?_
                refine a_if_eq (pc := 238) (tgt := 252) dX7_takesOwn_238 (by decide) (fun c_238 => ?_) (fun c_238 => ?_)
                · refine a_iconst (pc := 252) (v := 0) dX7_takesOwn_252 (by decide) ?_
                  refine a_iast (pc := 253)  (by assumption) rfl (by omega) (by decide) dX7_takesOwn_253 ?_
                  refine a_aload_n (pc := 254) dX7_takesOwn_254 rfl rfl ?_
                  refine a_getr (pc := 255) fl_X7_13 (by assumption) (by decide) (by rfl) dX7_takesOwn_255 ?_
                  refine a_iload (pc := 258) dX7_takesOwn_258 rfl ?_
                  refine a_bipush (pc := 260) (v := 30) dX7_takesOwn_260 (by decide) ?_
                  refine a_iaddN (pc := 262) (a := _) (b := 30) rfl rfl dX7_takesOwn_262 ?_
                  refine a_iload_n (pc := 263) dX7_takesOwn_263 rfl rfl ?_
                  refine a_iast (pc := 264)  (by assumption) rfl (by omega) (by decide) dX7_takesOwn_264 ?_
                  refine a_aload_n (pc := 265) dX7_takesOwn_265 rfl rfl ?_
                  refine a_getr (pc := 266) fl_X7_13 (by assumption) (by decide) (by rfl) dX7_takesOwn_266 ?_
                  refine a_iload (pc := 269) dX7_takesOwn_269 rfl ?_
                  refine a_bipush (pc := 271) (v := 32) dX7_takesOwn_271 (by decide) ?_
                  refine a_iaddN (pc := 273) (a := _) (b := 32) rfl rfl dX7_takesOwn_273 ?_
                  refine a_iload (pc := 274) dX7_takesOwn_274 rfl ?_
                  refine a_iast (pc := 276)  (by assumption) rfl (by omega) (by decide) dX7_takesOwn_276 ?_
                  refine a_iload (pc := 277) dX7_takesOwn_277 rfl ?_
                  refine a_if_eq (pc := 279) (tgt := 326) dX7_takesOwn_279 (by decide) (fun c_279 => ?_) (fun c_279 => ?_)
                  · refine a_aload_n (pc := 326) dX7_takesOwn_326 rfl rfl ?_
                    refine a_getr (pc := 327) fl_X7_22 (by assumption) (by decide) (by rfl) dX7_takesOwn_327 ?_
                    refine a_iload_n (pc := 330) dX7_takesOwn_330 rfl rfl ?_
                    refine a_iald (pc := 331)  (by assumption) rfl (by omega) (by decide) dX7_takesOwn_331 ?_
                    refine a_top (y := 3) (by first | exact hk | (simp [up2_eq, upA_upA, upA_ap, up2_upA, upd_ap]; exact hk)) ?_
                    refine a_iconst (pc := 332) (v := 4) dX7_takesOwn_332 (by decide) ?_
                    refine a_icmp_ne (pc := 333) (tgt := 363) dX7_takesOwn_333 (by decide) (fun c_333 => ?_) (fun c_333 => ?_)
                    · refine a_iconst (pc := 363) (v := 0) dX7_takesOwn_363 (by decide) ?_
                      refine a_zret (pc := 364) rfl (by rfl) dX7_takesOwn_364 ?_
                      refine ⟨rfl, ?_, ?_⟩
                      · simp only [up2_eq, upA_upA, up2_upA, upA_at, upA_self]
                      · simp_all [tk3P, nxtP, up2_eq, upA_upA, upA_ap, up2_upA, upd_ap, -Int32.not_lt, -Int32.not_le, -Nat.not_lt]
                    · exact absurd c_333 (by decide)
                  · exact absurd c_279 (by decide)
                · exact absurd c_238 (by decide)
              · refine a_aload_n (pc := 203) dX7_takesOwn_203 rfl rfl ?_
                refine a_getr (pc := 204) fl_X7_13 (by assumption) (by decide) (by rfl) dX7_takesOwn_204 ?_
                refine a_iload (pc := 207) dX7_takesOwn_207 rfl ?_
                refine a_bipush (pc := 209) (v := 32) dX7_takesOwn_209 (by decide) ?_
                refine a_iaddN (pc := 211) (a := _) (b := 32) rfl rfl dX7_takesOwn_211 ?_
                refine a_iald (pc := 212)  (by assumption) rfl (by omega) (by decide) dX7_takesOwn_212 ?_
                refine a_iload (pc := 213) dX7_takesOwn_213 rfl ?_
                refine a_iconst (pc := 215) (v := 1) dX7_takesOwn_215 (by decide) ?_
                refine a_isub (pc := 216) dX7_takesOwn_216 ?_
                refine a_icmp_ne (pc := 217) (tgt := 224) dX7_takesOwn_217 (by decide) (fun c_217 => ?_) (fun c_217 => ?_)
                · refine a_iconst (pc := 224) (v := 0) dX7_takesOwn_224 (by decide) ?_
                  refine a_istore (pc := 225) (al' := [some (.ref _), some (.int _), some (.int _), some (.int _), some (.int _), some (.int _), some (.int _), some (.int _)]) dX7_takesOwn_225 (by decide) rfl rfl ?_
                  refine a_aload_n (pc := 227) dX7_takesOwn_227 rfl rfl ?_
                  refine a_getr (pc := 228) fl_X7_13 (by assumption) (by decide) (by rfl) dX7_takesOwn_228 ?_
                  refine a_iload (pc := 231) dX7_takesOwn_231 rfl ?_
                  refine a_bipush (pc := 233) (v := 31) dX7_takesOwn_233 (by decide) ?_
                  refine a_iaddN (pc := 235) (a := _) (b := 31) rfl rfl dX7_takesOwn_235 ?_
                  refine a_iload (pc := 236) dX7_takesOwn_236 rfl ?_
                  refine a_if_eq (pc := 238) (tgt := 252) dX7_takesOwn_238 (by decide) (fun c_238 => ?_) (fun c_238 => ?_)
                  · refine a_iconst (pc := 252) (v := 0) dX7_takesOwn_252 (by decide) ?_
                    refine a_iast (pc := 253)  (by assumption) rfl (by omega) (by decide) dX7_takesOwn_253 ?_
                    refine a_aload_n (pc := 254) dX7_takesOwn_254 rfl rfl ?_
                    refine a_getr (pc := 255) fl_X7_13 (by assumption) (by decide) (by rfl) dX7_takesOwn_255 ?_
                    refine a_iload (pc := 258) dX7_takesOwn_258 rfl ?_
                    refine a_bipush (pc := 260) (v := 30) dX7_takesOwn_260 (by decide) ?_
                    refine a_iaddN (pc := 262) (a := _) (b := 30) rfl rfl dX7_takesOwn_262 ?_
                    refine a_iload_n (pc := 263) dX7_takesOwn_263 rfl rfl ?_
                    refine a_iast (pc := 264)  (by assumption) rfl (by omega) (by decide) dX7_takesOwn_264 ?_
                    refine a_aload_n (pc := 265) dX7_takesOwn_265 rfl rfl ?_
                    refine a_getr (pc := 266) fl_X7_13 (by assumption) (by decide) (by rfl) dX7_takesOwn_266 ?_
                    refine a_iload (pc := 269) dX7_takesOwn_269 rfl ?_
                    refine a_bipush (pc := 271) (v := 32) dX7_takesOwn_271 (by decide) ?_
                    refine a_iaddN (pc := 273) (a := _) (b := 32) rfl rfl dX7_takesOwn_273 ?_
                    refine a_iload (pc := 274) dX7_takesOwn_274 rfl ?_
                    refine a_iast (pc := 276)  (by assumption) rfl (by omega) (by decide) dX7_takesOwn_276 ?_
                    refine a_iload (pc := 277) dX7_takesOwn_277 rfl ?_
                    refine a_if_eq (pc := 279) (tgt := 326) dX7_takesOwn_279 (by decide) (fun c_279 => ?_) (fun c_279 => ?_)
                    · refine a_aload_n (pc := 326) dX7_takesOwn_326 rfl rfl ?_
                      refine a_getr (pc := 327) fl_X7_22 (by assumption) (by decide) (by rfl) dX7_takesOwn_327 ?_
                      refine a_iload_n (pc := 330) dX7_takesOwn_330 rfl rfl ?_
                      refine a_iald (pc := 331)  (by assumption) rfl (by omega) (by decide) dX7_takesOwn_331 ?_
                      refine a_top (y := 3) (by first | exact hk | (simp [up2_eq, upA_upA, upA_ap, up2_upA, upd_ap]; exact hk)) ?_
                      refine a_iconst (pc := 332) (v := 4) dX7_takesOwn_332 (by decide) ?_
                      refine a_icmp_ne (pc := 333) (tgt := 363) dX7_takesOwn_333 (by decide) (fun c_333 => ?_) (fun c_333 => ?_)
                      · refine a_iconst (pc := 363) (v := 0) dX7_takesOwn_363 (by decide) ?_
                        refine a_zret (pc := 364) rfl (by rfl) dX7_takesOwn_364 ?_
                        refine ⟨rfl, ?_, ?_⟩
                        · simp only [up2_eq, upA_upA, up2_upA, upA_at, upA_self]
                        · simp_all [tk3P, nxtP, up2_eq, upA_upA, upA_ap, up2_upA, upd_ap, -Int32.not_lt, -Int32.not_le, -Nat.not_lt]
                      · exact absurd c_333 (by decide)
                    · exact absurd c_279 (by decide)
                  · exact absurd c_238 (by decide)
                · refine a_iconst (pc := 220) (v := 1) dX7_takesOwn_220 (by decide) ?_
                  refine a_goto (pc := 221) (tgt := 225) dX7_takesOwn_221 (by decide) ?_
                  refine a_istore (pc := 225) (al' := [some (.ref _), some (.int _), some (.int _), some (.int _), some (.int _), some (.int _), some (.int _), some (.int _)]) dX7_takesOwn_225 (by decide) rfl rfl ?_
                  refine a_aload_n (pc := 227) dX7_takesOwn_227 rfl rfl ?_
                  refine a_getr (pc := 228) fl_X7_13 (by assumption) (by decide) (by rfl) dX7_takesOwn_228 ?_
                  refine a_iload (pc := 231) dX7_takesOwn_231 rfl ?_
                  refine a_bipush (pc := 233) (v := 31) dX7_takesOwn_233 (by decide) ?_
                  refine a_iaddN (pc := 235) (a := _) (b := 31) rfl rfl dX7_takesOwn_235 ?_
                  refine a_iload (pc := 236) dX7_takesOwn_236 rfl ?_
                  refine a_if_eq (pc := 238) (tgt := 252) dX7_takesOwn_238 (by decide) (fun c_238 => ?_) (fun c_238 => ?_)
                  · exact absurd c_238 (by decide)
                  · refine a_aload_n (pc := 241) dX7_takesOwn_241 rfl rfl ?_
                    refine a_getr (pc := 242) fl_X7_31 (by assumption) (by decide) (by rfl) dX7_takesOwn_242 ?_
                    refine a_iload_n (pc := 245) dX7_takesOwn_245 rfl rfl ?_
                    refine a_iald (pc := 246)  (by assumption) rfl (by omega) (by decide) dX7_takesOwn_246 ?_
                    refine a_iconst (pc := 247) (v := 1) dX7_takesOwn_247 (by decide) ?_
                    refine a_iadd (pc := 248) dX7_takesOwn_248 ?_
                    refine a_goto (pc := 249) (tgt := 253) dX7_takesOwn_249 (by decide) ?_
                    refine a_iast (pc := 253)  (by assumption) rfl (by omega) (by decide) dX7_takesOwn_253 ?_
                    refine a_aload_n (pc := 254) dX7_takesOwn_254 rfl rfl ?_
                    refine a_getr (pc := 255) fl_X7_13 (by assumption) (by decide) (by rfl) dX7_takesOwn_255 ?_
                    refine a_iload (pc := 258) dX7_takesOwn_258 rfl ?_
                    refine a_bipush (pc := 260) (v := 30) dX7_takesOwn_260 (by decide) ?_
                    refine a_iaddN (pc := 262) (a := _) (b := 30) rfl rfl dX7_takesOwn_262 ?_
                    refine a_iload_n (pc := 263) dX7_takesOwn_263 rfl rfl ?_
                    refine a_iast (pc := 264)  (by assumption) rfl (by omega) (by decide) dX7_takesOwn_264 ?_
                    refine a_aload_n (pc := 265) dX7_takesOwn_265 rfl rfl ?_
                    refine a_getr (pc := 266) fl_X7_13 (by assumption) (by decide) (by rfl) dX7_takesOwn_266 ?_
                    refine a_iload (pc := 269) dX7_takesOwn_269 rfl ?_
                    refine a_bipush (pc := 271) (v := 32) dX7_takesOwn_271 (by decide) ?_
                    refine a_iaddN (pc := 273) (a := _) (b := 32) rfl rfl dX7_takesOwn_273 ?_
                    refine a_iload (pc := 274) dX7_takesOwn_274 rfl ?_
                    refine a_iast (pc := 276)  (by assumption) rfl (by omega) (by decide) dX7_takesOwn_276 ?_
                    refine a_iload (pc := 277) dX7_takesOwn_277 rfl ?_
                    refine a_if_eq (pc := 279) (tgt := 326) dX7_takesOwn_279 (by decide) (fun c_279 => ?_) (fun c_279 => ?_)
                    · exact absurd c_279 (by decide)
                    · refine a_aload_n (pc := 282) dX7_takesOwn_282 rfl rfl ?_
                      refine a_getr (pc := 283) fl_X7_31 (by assumption) (by decide) (by rfl) dX7_takesOwn_283 ?_
                      refine a_iload_n (pc := 286) dX7_takesOwn_286 rfl rfl ?_
                      refine a_iald (pc := 287)  (by assumption) rfl (by omega) (by decide) dX7_takesOwn_287 ?_
                      refine a_iconst (pc := 288) (v := 1) dX7_takesOwn_288 (by decide) ?_
                      refine a_iadd (pc := 289) dX7_takesOwn_289 ?_
                      refine a_aload_n (pc := 290) dX7_takesOwn_290 rfl rfl ?_
                      refine a_getr (pc := 291) fl_X7_28 (by assumption) (by decide) (by rfl) dX7_takesOwn_291 ?_
                      refine a_iload_n (pc := 294) dX7_takesOwn_294 rfl rfl ?_
                      refine a_iald (pc := 295)  (by assumption) rfl (by omega) (by decide) dX7_takesOwn_295 ?_
                      refine a_icmp_ne (pc := 296) (tgt := 326) dX7_takesOwn_296 (by decide) (fun c_296 => ?_) (fun c_296 => ?_)
                      · refine a_aload_n (pc := 326) dX7_takesOwn_326 rfl rfl ?_
                        refine a_getr (pc := 327) fl_X7_22 (by assumption) (by decide) (by rfl) dX7_takesOwn_327 ?_
                        refine a_iload_n (pc := 330) dX7_takesOwn_330 rfl rfl ?_
                        refine a_iald (pc := 331)  (by assumption) rfl (by omega) (by decide) dX7_takesOwn_331 ?_
                        refine a_top (y := 3) (by first | exact hk | (simp [up2_eq, upA_upA, upA_ap, up2_upA, upd_ap]; exact hk)) ?_
                        refine a_iconst (pc := 332) (v := 4) dX7_takesOwn_332 (by decide) ?_
                        refine a_icmp_ne (pc := 333) (tgt := 363) dX7_takesOwn_333 (by decide) (fun c_333 => ?_) (fun c_333 => ?_)
                        · refine a_iconst (pc := 363) (v := 0) dX7_takesOwn_363 (by decide) ?_
                          refine a_zret (pc := 364) rfl (by rfl) dX7_takesOwn_364 ?_
                          refine ⟨rfl, ?_, ?_⟩
                          · simp only [up2_eq, upA_upA, up2_upA, upA_at, upA_self]
                          · simp_all [tk3P, nxtP, up2_eq, upA_upA, upA_ap, up2_upA, upd_ap, -Int32.not_lt, -Int32.not_le, -Nat.not_lt]
                        · exact absurd c_333 (by decide)
                      · refine a_aload_n (pc := 299) dX7_takesOwn_299 rfl rfl ?_
                        refine a_getr (pc := 300) fl_X7_13 (by assumption) (by decide) (by rfl) dX7_takesOwn_300 ?_
                        refine a_iload (pc := 303) dX7_takesOwn_303 rfl ?_
                        refine a_bipush (pc := 305) (v := 24) dX7_takesOwn_305 (by decide) ?_
                        refine a_iaddN (pc := 307) (a := _) (b := 24) rfl rfl dX7_takesOwn_307 ?_
                        refine a_iload (pc := 308) dX7_takesOwn_308 rfl ?_
                        refine a_iconst (pc := 310) (v := 1) dX7_takesOwn_310 (by decide) ?_
                        refine a_iadd (pc := 311) dX7_takesOwn_311 ?_
                        refine a_iast (pc := 312)  (by assumption) rfl (by omega) (by decide) dX7_takesOwn_312 ?_
                        refine a_aload_n (pc := 313) dX7_takesOwn_313 rfl rfl ?_
                        refine a_getr (pc := 314) fl_X7_13 (by assumption) (by decide) (by rfl) dX7_takesOwn_314 ?_
                        refine a_iload (pc := 317) dX7_takesOwn_317 rfl ?_
                        refine a_bipush (pc := 319) (v := 24) dX7_takesOwn_319 (by decide) ?_
                        refine a_iaddN (pc := 321) (a := _) (b := 24) rfl rfl dX7_takesOwn_321 ?_
                        refine a_iconst (pc := 322) (v := 1) dX7_takesOwn_322 (by decide) ?_
                        refine a_iaddN (pc := 323) (a := _) (b := 1) rfl rfl dX7_takesOwn_323 ?_
                        refine a_iload_n (pc := 324) dX7_takesOwn_324 rfl rfl ?_
                        refine a_iast (pc := 325)  (by assumption) rfl (by omega) (by decide) dX7_takesOwn_325 ?_
                        refine a_aload_n (pc := 326) dX7_takesOwn_326 rfl rfl ?_
                        refine a_getr (pc := 327) fl_X7_22 (by assumption) (by decide) (by rfl) dX7_takesOwn_327 ?_
                        refine a_iload_n (pc := 330) dX7_takesOwn_330 rfl rfl ?_
                        refine a_iald (pc := 331)  (by assumption) rfl (by omega) (by decide) dX7_takesOwn_331 ?_
                        refine a_top (y := 3) (by first | exact hk | (simp [up2_eq, upA_upA, upA_ap, up2_upA, upd_ap]; exact hk)) ?_
                        refine a_iconst (pc := 332) (v := 4) dX7_takesOwn_332 (by decide) ?_
                        refine a_icmp_ne (pc := 333) (tgt := 363) dX7_takesOwn_333 (by decide) (fun c_333 => ?_) (fun c_333 => ?_)
                        · refine a_iconst (pc := 363) (v := 0) dX7_takesOwn_363 (by decide) ?_
                          refine a_zret (pc := 364) rfl (by rfl) dX7_takesOwn_364 ?_
                          refine ⟨rfl, ?_, ?_⟩
                          · simp only [up2_eq, upA_upA, up2_upA, upA_at, upA_self]
                          · simp_all [tk3P, nxtP, up2_eq, upA_upA, upA_ap, up2_upA, upd_ap, -Int32.not_lt, -Int32.not_le, -Nat.not_lt]
                        · exact absurd c_333 (by decide)
      · exact absurd c_105 (by decide)
    · exact absurd c_36 (by decide)

def tk4F (f : Nat → Int32) (b i n t : Nat) (sl L : Int32) : Int32 × (Nat → Int32) := if f (b + 70 * i + 27) = sl ∧ f (b + 70 * i + 26) = 2 then (1, sntF f b i n t L) else (0, f)
set_option maxHeartbeats 4000000 in
set_option maxRecDepth 100000 in
theorem c_X7_takesOwn4 {ν : Mem} {r i j : Nat} {sl : Int32} (hr : r < 3) (hi : i < 6) (hj : j < 6) (hk : ν 5 j = 4) {n t : Nat} (hs : ν 2 (440 * r + 70 * i + 26) = 2 → n < 6 ∧ ν 2 (440 * r + 70 * i + 8) = nI (n + 1)) (hL : ¬ ν 0 3 = 0) (ht : ν 2 (440 * r + 70 * i + 1) = nI t) (htl : t < 9) : Con shM mX7_takesOwn [.ref 0, .int (nI r), .int (nI i), .int (nI j), .int sl] ν (fun q u => q = (tk4F (ν 2) (440 * r) i n t sl (ν 0 3)).1 ∧ u = upA ν 2 (tk4F (ν 2) (440 * r) i n t sl (ν 0 3)).2) := by
  have m0 : shM[0]? = some (7, 18, [none, some 1, none, none, none, none, none, some 2, some 3, none, none, some 4, none, none, some 5, some 6, some 7, some 8]) := rfl
  have m1 : shM[1]? = some (100, 200, []) := rfl
  have m2 : shM[2]? = some (100, 1320, []) := rfl
  have m3 : shM[3]? = some (100, 1760, []) := rfl
  have m4 : shM[4]? = some (100, 4, []) := rfl
  have m5 : shM[5]? = some (100, 6, []) := rfl
  have m6 : shM[6]? = some (100, 6, []) := rfl
  have m7 : shM[7]? = some (100, 6, []) := rfl
  have m8 : shM[8]? = some (100, 6, []) := rfl
  refine Con.ofAW (al0 := [some (.ref 0), some (.int (nI r)), some (.int (nI i)), some (.int (nI j)), some (.int sl), none, none, none]) (by decide) rfl (Nat.le_of_ble_eq_true rfl) rfl ?_
  refine a_iload_n (pc := 0) dX7_takesOwn_0 rfl rfl ?_
  refine a_iload_n (pc := 1) dX7_takesOwn_1 rfl rfl ?_
  refine a_callS2 (pc := 2) cs_X7_52 ⟨(Nat.le_of_ble_eq_true rfl), (Nat.le_of_ble_eq_true rfl)⟩ (Nat.le_of_ble_eq_true rfl) dX7_takesOwn_2 rfl c_X7_at ?_
  rintro r_ u ⟨rfl, rfl⟩
  refine a_istore (pc := 5) (al' := [some (.ref _), some (.int _), some (.int _), some (.int _), some (.int _), some (.int _), none, none]) dX7_takesOwn_5 (by decide) rfl rfl ?_
  refine a_aload_n (pc := 7) dX7_takesOwn_7 rfl rfl ?_
  refine a_getr (pc := 8) fl_X7_13 (by assumption) (by decide) (by rfl) dX7_takesOwn_8 ?_
  refine a_iload (pc := 11) dX7_takesOwn_11 rfl ?_
  refine a_bipush (pc := 13) (v := 27) dX7_takesOwn_13 (by decide) ?_
  refine a_iaddN (pc := 15) (a := _) (b := 27) rfl rfl dX7_takesOwn_15 ?_
  refine a_iald (pc := 16)  (by assumption) rfl (by omega) (by decide) dX7_takesOwn_16 ?_
  refine a_iload (pc := 17) dX7_takesOwn_17 rfl ?_
  refine a_icmp_ne (pc := 19) (tgt := 26) dX7_takesOwn_19 (by decide) (fun c_19 => ?_) (fun c_19 => ?_)
  · refine a_iconst (pc := 26) (v := 0) dX7_takesOwn_26 (by decide) ?_
    refine a_istore (pc := 27) (al' := [some (.ref _), some (.int _), some (.int _), some (.int _), some (.int _), some (.int _), some (.int _), none]) dX7_takesOwn_27 (by decide) rfl rfl ?_
    refine a_aload_n (pc := 29) dX7_takesOwn_29 rfl rfl ?_
    refine a_getr (pc := 30) fl_X7_22 (by assumption) (by decide) (by rfl) dX7_takesOwn_30 ?_
    refine a_iload_n (pc := 33) dX7_takesOwn_33 rfl rfl ?_
    refine a_iald (pc := 34)  (by assumption) rfl (by omega) (by decide) dX7_takesOwn_34 ?_
    refine a_top (y := 4) (by first | exact hk | (simp [up2_eq, upA_upA, upA_ap, up2_upA, upd_ap]; exact hk)) ?_
    refine a_iconst (pc := 35) (v := 1) dX7_takesOwn_35 (by decide) ?_
    refine a_icmp_ne (pc := 36) (tgt := 98) dX7_takesOwn_36 (by decide) (fun c_36 => ?_) (fun c_36 => ?_)
    · refine a_aload_n (pc := 98) dX7_takesOwn_98 rfl rfl ?_
      refine a_getr (pc := 99) fl_X7_22 (by assumption) (by decide) (by rfl) dX7_takesOwn_99 ?_
      refine a_iload_n (pc := 102) dX7_takesOwn_102 rfl rfl ?_
      refine a_iald (pc := 103)  (by assumption) rfl (by omega) (by decide) dX7_takesOwn_103 ?_
      refine a_top (y := 4) (by first | exact hk | (simp [up2_eq, upA_upA, upA_ap, up2_upA, upd_ap]; exact hk)) ?_
      refine a_iconst (pc := 104) (v := 2) dX7_takesOwn_104 (by decide) ?_
      refine a_icmp_ne (pc := 105) (tgt := 151) dX7_takesOwn_105 (by decide) (fun c_105 => ?_) (fun c_105 => ?_)
      · refine a_aload_n (pc := 151) dX7_takesOwn_151 rfl rfl ?_
        refine a_getr (pc := 152) fl_X7_22 (by assumption) (by decide) (by rfl) dX7_takesOwn_152 ?_
        refine a_iload_n (pc := 155) dX7_takesOwn_155 rfl rfl ?_
        refine a_iald (pc := 156)  (by assumption) rfl (by omega) (by decide) dX7_takesOwn_156 ?_
        refine a_top (y := 4) (by first | exact hk | (simp [up2_eq, upA_upA, upA_ap, up2_upA, upd_ap]; exact hk)) ?_
        refine a_iconst (pc := 157) (v := 3) dX7_takesOwn_157 (by decide) ?_
        refine a_icmp_ne (pc := 158) (tgt := 326) dX7_takesOwn_158 (by decide) (fun c_158 => ?_) (fun c_158 => ?_)
        · refine a_aload_n (pc := 326) dX7_takesOwn_326 rfl rfl ?_
          refine a_getr (pc := 327) fl_X7_22 (by assumption) (by decide) (by rfl) dX7_takesOwn_327 ?_
          refine a_iload_n (pc := 330) dX7_takesOwn_330 rfl rfl ?_
          refine a_iald (pc := 331)  (by assumption) rfl (by omega) (by decide) dX7_takesOwn_331 ?_
          refine a_top (y := 4) (by first | exact hk | (simp [up2_eq, upA_upA, upA_ap, up2_upA, upd_ap]; exact hk)) ?_
          refine a_iconst (pc := 332) (v := 4) dX7_takesOwn_332 (by decide) ?_
          refine a_icmp_ne (pc := 333) (tgt := 363) dX7_takesOwn_333 (by decide) (fun c_333 => ?_) (fun c_333 => ?_)
          · exact absurd c_333 (by decide)
          · refine a_iload (pc := 336) dX7_takesOwn_336 rfl ?_
            refine a_if_eq (pc := 338) (tgt := 363) dX7_takesOwn_338 (by decide) (fun c_338 => ?_) (fun c_338 => ?_)
            · refine a_iconst (pc := 363) (v := 0) dX7_takesOwn_363 (by decide) ?_
              refine a_zret (pc := 364) rfl (by rfl) dX7_takesOwn_364 ?_
              simp_all [tk4F, up2_eq, upA_upA, upA_ap, up2_upA, upd_ap, upA_self, -Int32.not_lt, -Int32.not_le, -Nat.not_lt]
            · exact absurd c_338 (by decide)
        · exact absurd c_158 (by decide)
      · exact absurd c_105 (by decide)
    · exact absurd c_36 (by decide)
  · refine a_iconst (pc := 22) (v := 1) dX7_takesOwn_22 (by decide) ?_
    refine a_goto (pc := 23) (tgt := 27) dX7_takesOwn_23 (by decide) ?_
    refine a_istore (pc := 27) (al' := [some (.ref _), some (.int _), some (.int _), some (.int _), some (.int _), some (.int _), some (.int _), none]) dX7_takesOwn_27 (by decide) rfl rfl ?_
    refine a_aload_n (pc := 29) dX7_takesOwn_29 rfl rfl ?_
    refine a_getr (pc := 30) fl_X7_22 (by assumption) (by decide) (by rfl) dX7_takesOwn_30 ?_
    refine a_iload_n (pc := 33) dX7_takesOwn_33 rfl rfl ?_
    refine a_iald (pc := 34)  (by assumption) rfl (by omega) (by decide) dX7_takesOwn_34 ?_
    refine a_top (y := 4) (by first | exact hk | (simp [up2_eq, upA_upA, upA_ap, up2_upA, upd_ap]; exact hk)) ?_
    refine a_iconst (pc := 35) (v := 1) dX7_takesOwn_35 (by decide) ?_
    refine a_icmp_ne (pc := 36) (tgt := 98) dX7_takesOwn_36 (by decide) (fun c_36 => ?_) (fun c_36 => ?_)
    · refine a_aload_n (pc := 98) dX7_takesOwn_98 rfl rfl ?_
      refine a_getr (pc := 99) fl_X7_22 (by assumption) (by decide) (by rfl) dX7_takesOwn_99 ?_
      refine a_iload_n (pc := 102) dX7_takesOwn_102 rfl rfl ?_
      refine a_iald (pc := 103)  (by assumption) rfl (by omega) (by decide) dX7_takesOwn_103 ?_
      refine a_top (y := 4) (by first | exact hk | (simp [up2_eq, upA_upA, upA_ap, up2_upA, upd_ap]; exact hk)) ?_
      refine a_iconst (pc := 104) (v := 2) dX7_takesOwn_104 (by decide) ?_
      refine a_icmp_ne (pc := 105) (tgt := 151) dX7_takesOwn_105 (by decide) (fun c_105 => ?_) (fun c_105 => ?_)
      · refine a_aload_n (pc := 151) dX7_takesOwn_151 rfl rfl ?_
        refine a_getr (pc := 152) fl_X7_22 (by assumption) (by decide) (by rfl) dX7_takesOwn_152 ?_
        refine a_iload_n (pc := 155) dX7_takesOwn_155 rfl rfl ?_
        refine a_iald (pc := 156)  (by assumption) rfl (by omega) (by decide) dX7_takesOwn_156 ?_
        refine a_top (y := 4) (by first | exact hk | (simp [up2_eq, upA_upA, upA_ap, up2_upA, upd_ap]; exact hk)) ?_
        refine a_iconst (pc := 157) (v := 3) dX7_takesOwn_157 (by decide) ?_
        refine a_icmp_ne (pc := 158) (tgt := 326) dX7_takesOwn_158 (by decide) (fun c_158 => ?_) (fun c_158 => ?_)
        · refine a_aload_n (pc := 326) dX7_takesOwn_326 rfl rfl ?_
          refine a_getr (pc := 327) fl_X7_22 (by assumption) (by decide) (by rfl) dX7_takesOwn_327 ?_
          refine a_iload_n (pc := 330) dX7_takesOwn_330 rfl rfl ?_
          refine a_iald (pc := 331)  (by assumption) rfl (by omega) (by decide) dX7_takesOwn_331 ?_
          refine a_top (y := 4) (by first | exact hk | (simp [up2_eq, upA_upA, upA_ap, up2_upA, upd_ap]; exact hk)) ?_
          refine a_iconst (pc := 332) (v := 4) dX7_takesOwn_332 (by decide) ?_
          refine a_icmp_ne (pc := 333) (tgt := 363) dX7_takesOwn_333 (by decide) (fun c_333 => ?_) (fun c_333 => ?_)
          · exact absurd c_333 (by decide)
          · refine a_iload (pc := 336) dX7_takesOwn_336 rfl ?_
            refine a_if_eq (pc := 338) (tgt := 363) dX7_takesOwn_338 (by decide) (fun c_338 => ?_) (fun c_338 => ?_)
            · exact absurd c_338 (by decide)
            · refine a_aload_n (pc := 341) dX7_takesOwn_341 rfl rfl ?_
              refine a_getr (pc := 342) fl_X7_13 (by assumption) (by decide) (by rfl) dX7_takesOwn_342 ?_
              refine a_iload (pc := 345) dX7_takesOwn_345 rfl ?_
              refine a_bipush (pc := 347) (v := 26) dX7_takesOwn_347 (by decide) ?_
              refine a_iaddN (pc := 349) (a := _) (b := 26) rfl rfl dX7_takesOwn_349 ?_
              refine a_iald (pc := 350)  (by assumption) rfl (by omega) (by decide) dX7_takesOwn_350 ?_
              refine a_iconst (pc := 351) (v := 2) dX7_takesOwn_351 (by decide) ?_
              refine a_icmp_ne (pc := 352) (tgt := 363) dX7_takesOwn_352 (by decide) (fun c_352 => ?_) (fun c_352 => ?_)
              · refine a_iconst (pc := 363) (v := 0) dX7_takesOwn_363 (by decide) ?_
                refine a_zret (pc := 364) rfl (by rfl) dX7_takesOwn_364 ?_
                simp_all [tk4F, up2_eq, upA_upA, upA_ap, up2_upA, upd_ap, upA_self, -Int32.not_lt, -Int32.not_le, -Nat.not_lt]
              · refine a_aload_n (pc := 355) dX7_takesOwn_355 rfl rfl ?_
                refine a_iload_n (pc := 356) dX7_takesOwn_356 rfl rfl ?_
                refine a_iload_n (pc := 357) dX7_takesOwn_357 rfl rfl ?_
                refine a_callV2 (pc := 358) ck_X7_150 ⟨(Nat.le_of_ble_eq_true rfl), (Nat.le_of_ble_eq_true rfl)⟩ (by assumption) (by decide) (Nat.le_of_ble_eq_true rfl) dX7_takesOwn_358 rfl (c_X7_sent (n := n) (t := t) hr hi (hs c_352).1 (hs c_352).2 hL ht htl) ?_
                rintro u rfl
                refine a_iconst (pc := 361) (v := 1) dX7_takesOwn_361 (by decide) ?_
                refine a_zret (pc := 362) rfl (by rfl) dX7_takesOwn_362 ?_
                simp_all [tk4F, up2_eq, upA_upA, upA_ap, up2_upA, upd_ap, upA_self, -Int32.not_lt, -Int32.not_le, -Nat.not_lt]
        · exact absurd c_158 (by decide)
      · exact absurd c_105 (by decide)
    · exact absurd c_36 (by decide)

set_option maxHeartbeats 4000000 in
set_option maxRecDepth 100000 in
theorem l_X7_overhears {ν0 : Mem} {r i j : Nat} {sl v6 : Int32} (hr : r < 3) (hi : i < 6) {Q : Int32 → Mem → Prop} (hQ : AW shM mX7_overhears 177 [some (.ref 0), some (.int (nI r)), some (.int (nI i)), some (.int (nI j)), some (.int sl), some (.int (nI (440 * r + 70 * i))), some (.int v6), some (.int (nI 21))] [] (upA ν0 2 (fun x => if 440 * r + 70 * i + 33 + 1 ≤ x ∧ x < 440 * r + 70 * i + 33 + (21) then ν0 2 (x + 4) else ν0 2 x)) Q) : ∀ d k : Nat, k + d = 21 → 1 ≤ k → ∀ ν : Mem, ν = upA ν0 2 (fun x => if 440 * r + 70 * i + 33 + 1 ≤ x ∧ x < 440 * r + 70 * i + 33 + k then ν0 2 (x + 4) else ν0 2 x) → AW shM mX7_overhears 136 [some (.ref 0), some (.int (nI r)), some (.int (nI i)), some (.int (nI j)), some (.int sl), some (.int (nI (440 * r + 70 * i))), some (.int v6), some (.int (nI k))] [] ν Q := by
  have m0 : shM[0]? = some (7, 18, [none, some 1, none, none, none, none, none, some 2, some 3, none, none, some 4, none, none, some 5, some 6, some 7, some 8]) := rfl
  have m1 : shM[1]? = some (100, 200, []) := rfl
  have m2 : shM[2]? = some (100, 1320, []) := rfl
  have m3 : shM[3]? = some (100, 1760, []) := rfl
  have m4 : shM[4]? = some (100, 4, []) := rfl
  have m5 : shM[5]? = some (100, 6, []) := rfl
  have m6 : shM[6]? = some (100, 6, []) := rfl
  have m7 : shM[7]? = some (100, 6, []) := rfl
  have m8 : shM[8]? = some (100, 6, []) := rfl
  intro d
  induction d with
  | zero =>
    intro k hk hk0 ν hν
    refine a_iload (pc := 136) dX7_overhears_136 rfl ?_
    refine a_bipush (pc := 138) (v := 21) dX7_overhears_138 (by decide) ?_
    refine a_icmp_ge (pc := 140) (tgt := 177) dX7_overhears_140 (by decide) (fun c_140 => ?_) (fun c_140 => ?_)
    · have hkE : k = 21 := by omega
      subst hkE
      exact AW.cast hQ rfl rfl rfl hν.symm
    · exact absurd (nI_le (a := 21) (b := k) (by omega) (by omega)) c_140
  | succ d ih =>
    intro k hk hk0 ν hν
    refine a_iload (pc := 136) dX7_overhears_136 rfl ?_
    refine a_bipush (pc := 138) (v := 21) dX7_overhears_138 (by decide) ?_
    refine a_icmp_ge (pc := 140) (tgt := 177) dX7_overhears_140 (by decide) (fun c_140 => ?_) (fun c_140 => ?_)
    · exact absurd c_140 (nI_ge (a := k) (b := 21) (by omega) (by omega))
    · refine a_aload_n (pc := 143) dX7_overhears_143 rfl rfl ?_
      refine a_getr (pc := 144) fl_X7_13 (by assumption) (by decide) (by rfl) dX7_overhears_144 ?_
      refine a_iload (pc := 147) dX7_overhears_147 rfl ?_
      refine a_bipush (pc := 149) (v := 33) dX7_overhears_149 (by decide) ?_
      refine a_iaddN (pc := 151) (a := _) (b := 33) rfl rfl dX7_overhears_151 ?_
      refine a_iload (pc := 152) dX7_overhears_152 rfl ?_
      refine a_iaddN (pc := 154) (a := _) (b := _) rfl rfl dX7_overhears_154 ?_
      refine a_aload_n (pc := 155) dX7_overhears_155 rfl rfl ?_
      refine a_getr (pc := 156) fl_X7_13 (by assumption) (by decide) (by rfl) dX7_overhears_156 ?_
      refine a_iload (pc := 159) dX7_overhears_159 rfl ?_
      refine a_bipush (pc := 161) (v := 33) dX7_overhears_161 (by decide) ?_
      refine a_iaddN (pc := 163) (a := _) (b := 33) rfl rfl dX7_overhears_163 ?_
      refine a_iload (pc := 164) dX7_overhears_164 rfl ?_
      refine a_iaddN (pc := 166) (a := _) (b := _) rfl rfl dX7_overhears_166 ?_
      refine a_iconst (pc := 167) (v := 4) dX7_overhears_167 (by decide) ?_
      refine a_iaddN (pc := 168) (a := _) (b := 4) rfl rfl dX7_overhears_168 ?_
      refine a_iald (pc := 169)  (by assumption) rfl (by omega) (by decide) dX7_overhears_169 ?_
      refine a_iast (pc := 170)  (by assumption) rfl (by omega) (by decide) dX7_overhears_170 ?_
      refine a_iincN (pc := 171) (m := 1) (al' := [some (.ref _), some (.int _), some (.int _), some (.int _), some (.int _), some (.int _), some (.int _), some (.int _)]) dX7_overhears_171 rfl (by decide) rfl rfl ?_
      refine a_goto (pc := 174) (tgt := 136) dX7_overhears_174 (by decide) ?_
      refine ih (k + 1) (by omega) (by omega) _ ?_
      rw [hν, up2_upA]
      congr 1
      funext x
      simp only [upd_ap, upA_at]
      rw [if_neg (show ¬ (440 * r + 70 * i + 33 + 1 ≤ 440 * r + 70 * i + 33 + k + 4 ∧ 440 * r + 70 * i + 33 + k + 4 < 440 * r + 70 * i + 33 + k) by omega)]
      by_cases e1 : x = 440 * r + 70 * i + 33 + k
      · rw [if_pos e1, if_pos (by omega), e1]
      · rw [if_neg e1]
        by_cases e2 : 440 * r + 70 * i + 33 + 1 ≤ x ∧ x < 440 * r + 70 * i + 33 + k
        · rw [if_pos e2, if_pos (by omega)]
        · rw [if_neg e2, if_neg (by omega)]
def stlF (a s : Int32) : Int32 := if s ≤ a then a else s
def oh1F (f : Nat → Int32) (b i h : Nat) (x y z w : Int32) : Nat → Int32 := upd (upd (upd (upd (upd f (b + 70 * i + 33 + 1 + 4 * h) x) (b + 70 * i + 33 + 1 + 4 * h + 1) y) (b + 70 * i + 33 + 1 + 4 * h + 2) z) (b + 70 * i + 33 + 1 + 4 * h + 3) w) (b + 70 * i + 33) (nI (h + 1))
def sh4F (f : Nat → Int32) (a : Nat) : Nat → Int32 := fun x => if a + 1 ≤ x ∧ x < a + 21 then f (x + 4) else f x
def ohsF (f : Nat → Int32) (b i j h : Nat) (sl w wh wd p : Int32) : Nat → Int32 := if h = 6 then oh1F (sh4F (upd f (b + 70 * i + 3) (stlF (f (b + 70 * i + 3)) (sl + morF w wd p))) (b + 70 * i + 33)) b i 5 sl (nI j) wh w else oh1F (upd f (b + 70 * i + 3) (stlF (f (b + 70 * i + 3)) (sl + morF w wd p))) b i h sl (nI j) wh w
theorem oh_mem {ν : Mem} {r i h : Nat} {x y z w : Int32} {g : Nat → Int32} : up2 (up2 (up2 (up2 (up2 (upA ν 2 g) 2 (440 * r + 70 * i + 33 + 1 + 4 * h) x) 2 (440 * r + 70 * i + 33 + 1 + 4 * h + 1) y) 2 (440 * r + 70 * i + 33 + 1 + 4 * h + 2) z) 2 (440 * r + 70 * i + 33 + 1 + 4 * h + 3) w) 2 (440 * r + 70 * i + 33) (nI (h + 1)) = upA ν 2 (oh1F g (440 * r) i h x y z w) := by
  simp only [up2_upA, oh1F]
set_option maxHeartbeats 4000000 in
set_option maxRecDepth 100000 in
theorem l2_X7_overhears {ν : Mem} {r i j h : Nat} {sl v6 : Int32} {o7 : Option Value} (ho7 : o7 = none ∨ ∃ z, o7 = some (.int z)) {g : Nat → Int32} (hr : r < 3) (hi : i < 6) (hj : j < 6) (hh : h < 6) (hg : g (440 * r + 70 * i + 33) = nI h) : AW shM mX7_overhears 191 [some (.ref 0), some (.int (nI r)), some (.int (nI i)), some (.int (nI j)), some (.int sl), some (.int (nI (440 * r + 70 * i))), some (.int v6), o7] [] (upA ν 2 g) (fun _ u => u = upA ν 2 (oh1F g (440 * r) i h sl (nI j) (ν 6 j) (ν 5 j))) := by
  have m0 : shM[0]? = some (7, 18, [none, some 1, none, none, none, none, none, some 2, some 3, none, none, some 4, none, none, some 5, some 6, some 7, some 8]) := rfl
  have m1 : shM[1]? = some (100, 200, []) := rfl
  have m2 : shM[2]? = some (100, 1320, []) := rfl
  have m3 : shM[3]? = some (100, 1760, []) := rfl
  have m4 : shM[4]? = some (100, 4, []) := rfl
  have m5 : shM[5]? = some (100, 6, []) := rfl
  have m6 : shM[6]? = some (100, 6, []) := rfl
  have m7 : shM[7]? = some (100, 6, []) := rfl
  have m8 : shM[8]? = some (100, 6, []) := rfl
  have e1 : ¬ 440 * r + 70 * i + 33 = 440 * r + 70 * i + 33 + 1 + 4 * h := by omega
  have e2 : ¬ 440 * r + 70 * i + 33 = 440 * r + 70 * i + 33 + 1 + 4 * h + 1 := by omega
  have e3 : ¬ 440 * r + 70 * i + 33 = 440 * r + 70 * i + 33 + 1 + 4 * h + 2 := by omega
  have e4 : ¬ 440 * r + 70 * i + 33 = 440 * r + 70 * i + 33 + 1 + 4 * h + 3 := by omega
  refine a_iload (pc := 191) dX7_overhears_191 rfl ?_
  refine a_bipush (pc := 193) (v := 33) dX7_overhears_193 (by decide) ?_
  refine a_iaddN (pc := 195) (a := _) (b := 33) rfl rfl dX7_overhears_195 ?_
  refine a_iconst (pc := 196) (v := 1) dX7_overhears_196 (by decide) ?_
  refine a_iaddN (pc := 197) (a := _) (b := 1) rfl rfl dX7_overhears_197 ?_
  refine a_iconst (pc := 198) (v := 4) dX7_overhears_198 (by decide) ?_
  refine a_aload_n (pc := 199) dX7_overhears_199 rfl rfl ?_
  refine a_getr (pc := 200) fl_X7_13 (by assumption) (by decide) (by rfl) dX7_overhears_200 ?_
  refine a_iload (pc := 203) dX7_overhears_203 rfl ?_
  refine a_bipush (pc := 205) (v := 33) dX7_overhears_205 (by decide) ?_
  refine a_iaddN (pc := 207) (a := _) (b := 33) rfl rfl dX7_overhears_207 ?_
  refine a_iald (pc := 208)  (by assumption) rfl (by omega) (by decide) dX7_overhears_208 ?_
  refine a_top (y := nI h) (by simp [upA_ap]; exact hg) ?_
  refine a_imulN (pc := 209) (a := 4) (b := _) rfl rfl dX7_overhears_209 ?_
  refine a_iaddN (pc := 210) (a := _) (b := _) rfl rfl dX7_overhears_210 ?_
  refine a_istore (pc := 211) (al' := [some (.ref _), some (.int _), some (.int _), some (.int _), some (.int _), some (.int _), some (.int _), some (.int _)]) dX7_overhears_211 (by decide) rfl rfl ?_
  refine a_aload_n (pc := 213) dX7_overhears_213 rfl rfl ?_
  refine a_getr (pc := 214) fl_X7_13 (by assumption) (by decide) (by rfl) dX7_overhears_214 ?_
  refine a_iload (pc := 217) dX7_overhears_217 rfl ?_
  refine a_iload (pc := 219) dX7_overhears_219 rfl ?_
  refine a_iast (pc := 221)  (by assumption) rfl (by omega) (by decide) dX7_overhears_221 ?_
  refine a_aload_n (pc := 222) dX7_overhears_222 rfl rfl ?_
  refine a_getr (pc := 223) fl_X7_13 (by assumption) (by decide) (by rfl) dX7_overhears_223 ?_
  refine a_iload (pc := 226) dX7_overhears_226 rfl ?_
  refine a_iconst (pc := 228) (v := 1) dX7_overhears_228 (by decide) ?_
  refine a_iaddN (pc := 229) (a := _) (b := 1) rfl rfl dX7_overhears_229 ?_
  refine a_iload_n (pc := 230) dX7_overhears_230 rfl rfl ?_
  refine a_iast (pc := 231)  (by assumption) rfl (by omega) (by decide) dX7_overhears_231 ?_
  refine a_aload_n (pc := 232) dX7_overhears_232 rfl rfl ?_
  refine a_getr (pc := 233) fl_X7_13 (by assumption) (by decide) (by rfl) dX7_overhears_233 ?_
  refine a_iload (pc := 236) dX7_overhears_236 rfl ?_
  refine a_iconst (pc := 238) (v := 2) dX7_overhears_238 (by decide) ?_
  refine a_iaddN (pc := 239) (a := _) (b := 2) rfl rfl dX7_overhears_239 ?_
  refine a_aload_n (pc := 240) dX7_overhears_240 rfl rfl ?_
  refine a_getr (pc := 241) fl_X7_25 (by assumption) (by decide) (by rfl) dX7_overhears_241 ?_
  refine a_iload_n (pc := 244) dX7_overhears_244 rfl rfl ?_
  refine a_iald (pc := 245)  (by assumption) rfl (by omega) (by decide) dX7_overhears_245 ?_
  refine a_iast (pc := 246)  (by assumption) rfl (by omega) (by decide) dX7_overhears_246 ?_
  refine a_aload_n (pc := 247) dX7_overhears_247 rfl rfl ?_
  refine a_getr (pc := 248) fl_X7_13 (by assumption) (by decide) (by rfl) dX7_overhears_248 ?_
  refine a_iload (pc := 251) dX7_overhears_251 rfl ?_
  refine a_iconst (pc := 253) (v := 3) dX7_overhears_253 (by decide) ?_
  refine a_iaddN (pc := 254) (a := _) (b := 3) rfl rfl dX7_overhears_254 ?_
  refine a_aload_n (pc := 255) dX7_overhears_255 rfl rfl ?_
  refine a_getr (pc := 256) fl_X7_22 (by assumption) (by decide) (by rfl) dX7_overhears_256 ?_
  refine a_iload_n (pc := 259) dX7_overhears_259 rfl rfl ?_
  refine a_iald (pc := 260)  (by assumption) rfl (by omega) (by decide) dX7_overhears_260 ?_
  refine a_iast (pc := 261)  (by assumption) rfl (by omega) (by decide) dX7_overhears_261 ?_
  refine a_aload_n (pc := 262) dX7_overhears_262 rfl rfl ?_
  refine a_getr (pc := 263) fl_X7_13 (by assumption) (by decide) (by rfl) dX7_overhears_263 ?_
  refine a_iload (pc := 266) dX7_overhears_266 rfl ?_
  refine a_bipush (pc := 268) (v := 33) dX7_overhears_268 (by decide) ?_
  refine a_iaddN (pc := 270) (a := _) (b := 33) rfl rfl dX7_overhears_270 ?_
  refine a_dup2 (pc := 271) dX7_overhears_271 rfl rfl ?_
  refine a_iald (pc := 272)  (by assumption) rfl (by omega) (by decide) dX7_overhears_272 ?_
  refine a_top (y := nI h) (by simp [up2_ap, upA_ap, e1, e2, e3, e4]; exact hg) ?_
  refine a_iconst (pc := 273) (v := 1) dX7_overhears_273 (by decide) ?_
  refine a_iaddN (pc := 274) (a := _) (b := 1) rfl rfl dX7_overhears_274 ?_
  refine a_iast (pc := 275)  (by assumption) rfl (by omega) (by decide) dX7_overhears_275 ?_
  refine a_vret (pc := 276) rfl dX7_overhears_276 ?_
  simp only [up2_ap, upA_ap]
  exact oh_mem
theorem oh1F_33 {f : Nat → Int32} {b i h : Nat} {x y z w v : Int32} : oh1F (upd f (b + 70 * i + 33) v) b i h x y z w = oh1F f b i h x y z w := by
  funext k; simp only [oh1F, upd_ap]; by_cases e : k = b + 70 * i + 33 <;> simp [e]
set_option maxHeartbeats 4000000 in
set_option maxRecDepth 100000 in
theorem l3_X7_overhears {ν : Mem} {r i j h : Nat} {sl v6 : Int32} {g : Nat → Int32} (hr : r < 3) (hi : i < 6) (hj : j < 6) (hh : h ≤ 6) (hg : g (440 * r + 70 * i + 33) = nI h) : AW shM mX7_overhears 118 [some (.ref 0), some (.int (nI r)), some (.int (nI i)), some (.int (nI j)), some (.int sl), some (.int (nI (440 * r + 70 * i))), some (.int v6), none] [] (upA ν 2 g) (fun _ u => u = upA ν 2 (if h = 6 then oh1F (sh4F g (440 * r + 70 * i + 33)) (440 * r) i 5 sl (nI j) (ν 6 j) (ν 5 j) else oh1F g (440 * r) i h sl (nI j) (ν 6 j) (ν 5 j))) := by
  have m0 : shM[0]? = some (7, 18, [none, some 1, none, none, none, none, none, some 2, some 3, none, none, some 4, none, none, some 5, some 6, some 7, some 8]) := rfl
  have m1 : shM[1]? = some (100, 200, []) := rfl
  have m2 : shM[2]? = some (100, 1320, []) := rfl
  have m3 : shM[3]? = some (100, 1760, []) := rfl
  have m4 : shM[4]? = some (100, 4, []) := rfl
  have m5 : shM[5]? = some (100, 6, []) := rfl
  have m6 : shM[6]? = some (100, 6, []) := rfl
  have m7 : shM[7]? = some (100, 6, []) := rfl
  have m8 : shM[8]? = some (100, 6, []) := rfl
  refine a_aload_n (pc := 118) dX7_overhears_118 rfl rfl ?_
  refine a_getr (pc := 119) fl_X7_13 (by assumption) (by decide) (by rfl) dX7_overhears_119 ?_
  refine a_iload (pc := 122) dX7_overhears_122 rfl ?_
  refine a_bipush (pc := 124) (v := 33) dX7_overhears_124 (by decide) ?_
  refine a_iaddN (pc := 126) (a := _) (b := 33) rfl rfl dX7_overhears_126 ?_
  refine a_iald (pc := 127)  (by assumption) rfl (by omega) (by decide) dX7_overhears_127 ?_
  refine a_top (y := nI h) (by simp [upA_ap]; exact hg) ?_
  refine a_bipush (pc := 128) (v := 6) dX7_overhears_128 (by decide) ?_
  refine a_icmp_ne (pc := 130) (tgt := 191) dX7_overhears_130 (by decide) (fun c_130 => ?_) (fun c_130 => ?_)
  · have h6 : ¬ h = 6 := fun e => c_130 (by rw [e]; rfl)
    refine AW.mono (l2_X7_overhears (h := h) (Or.inl rfl) hr hi hj (by omega) hg) ?_
    rintro _ u rfl
    rw [if_neg h6]
  · refine a_iconst (pc := 133) (v := 1) dX7_overhears_133 (by decide) ?_
    refine a_istore (pc := 134) (al' := [some (.ref _), some (.int _), some (.int _), some (.int _), some (.int _), some (.int _), some (.int _), some (.int _)]) dX7_overhears_134 (by decide) rfl rfl ?_
    have h6 : h = 6 := (nI_eq (b := 6) (by omega) (by omega)).mp c_130
    subst h6
    refine l_X7_overhears (ν0 := upA ν 2 g) hr hi ?_ 20 1 rfl (Nat.le_refl 1) _ ?_
    · refine a_aload_n (pc := 177) dX7_overhears_177 rfl rfl ?_
      refine a_getr (pc := 178) fl_X7_13 (by assumption) (by decide) (by rfl) dX7_overhears_178 ?_
      refine a_iload (pc := 181) dX7_overhears_181 rfl ?_
      refine a_bipush (pc := 183) (v := 33) dX7_overhears_183 (by decide) ?_
      refine a_iaddN (pc := 185) (a := _) (b := 33) rfl rfl dX7_overhears_185 ?_
      refine a_dup2 (pc := 186) dX7_overhears_186 rfl rfl ?_
      refine a_iald (pc := 187)  (by assumption) rfl (by omega) (by decide) dX7_overhears_187 ?_
      refine a_top (y := nI 6) (by simp [upA_ap, upA_upA, hg]) ?_
      refine a_iconst (pc := 188) (v := 1) dX7_overhears_188 (by decide) ?_
      refine a_isubN (pc := 189) (a := _) (b := 1) rfl rfl (by decide) dX7_overhears_189 ?_
      refine a_iast (pc := 190)  (by assumption) rfl (by omega) (by decide) dX7_overhears_190 ?_
      rw [upA_upA, up2_upA]
      refine AW.mono (l2_X7_overhears (h := 5) (Or.inr ⟨_, rfl⟩) hr hi hj (by omega) (by rw [upd_at])) ?_
      rintro _ u rfl
      rw [if_pos rfl, oh1F_33, upA_at]
      rfl
    · rw [upA_upA]; congr 1; funext x; rw [upA_at, if_neg (by omega)]
set_option maxHeartbeats 4000000 in
set_option maxRecDepth 100000 in
theorem c_X7_overhears {ν : Mem} {r i j h : Nat} {sl : Int32} (hr : r < 3) (hi : i < 6) (hj : j < 6) (hh : h ≤ 6) (hg : ν 2 (440 * r + 70 * i + 33) = nI h) : Con shM mX7_overhears [.ref 0, .int (nI r), .int (nI i), .int (nI j), .int sl] ν (fun _ u => u = upA ν 2 (ohsF (ν 2) (440 * r) i j h sl (ν 5 j) (ν 6 j) (ν 7 j) (ν 8 j))) := by
  have m0 : shM[0]? = some (7, 18, [none, some 1, none, none, none, none, none, some 2, some 3, none, none, some 4, none, none, some 5, some 6, some 7, some 8]) := rfl
  have m1 : shM[1]? = some (100, 200, []) := rfl
  have m2 : shM[2]? = some (100, 1320, []) := rfl
  have m3 : shM[3]? = some (100, 1760, []) := rfl
  have m4 : shM[4]? = some (100, 4, []) := rfl
  have m5 : shM[5]? = some (100, 6, []) := rfl
  have m6 : shM[6]? = some (100, 6, []) := rfl
  have m7 : shM[7]? = some (100, 6, []) := rfl
  have m8 : shM[8]? = some (100, 6, []) := rfl
  refine Con.ofAW (al0 := [some (.ref 0), some (.int (nI r)), some (.int (nI i)), some (.int (nI j)), some (.int sl), none, none, none]) (by decide) rfl (Nat.le_of_ble_eq_true rfl) rfl ?_
  refine a_iload_n (pc := 0) dX7_overhears_0 rfl rfl ?_
  refine a_iload_n (pc := 1) dX7_overhears_1 rfl rfl ?_
  refine a_callS2 (pc := 2) cs_X7_52 ⟨(Nat.le_of_ble_eq_true rfl), (Nat.le_of_ble_eq_true rfl)⟩ (Nat.le_of_ble_eq_true rfl) dX7_overhears_2 rfl c_X7_at ?_
  rintro r_ u ⟨rfl, rfl⟩
  refine a_istore (pc := 5) (al' := [some (.ref _), some (.int _), some (.int _), some (.int _), some (.int _), some (.int _), none, none]) dX7_overhears_5 (by decide) rfl rfl ?_
  refine a_iload (pc := 7) dX7_overhears_7 rfl ?_
  refine a_aload_n (pc := 9) dX7_overhears_9 rfl rfl ?_
  refine a_getr (pc := 10) fl_X7_22 (by assumption) (by decide) (by rfl) dX7_overhears_10 ?_
  refine a_iload_n (pc := 13) dX7_overhears_13 rfl rfl ?_
  refine a_iald (pc := 14)  (by assumption) rfl (by omega) (by decide) dX7_overhears_14 ?_
  refine a_iconst (pc := 15) (v := 1) dX7_overhears_15 (by decide) ?_
  refine a_icmp_ne (pc := 16) (tgt := 30) dX7_overhears_16 (by decide) (fun c_16 => ?_) (fun c_16 => ?_)
  · refine a_aload_n (pc := 30) dX7_overhears_30 rfl rfl ?_
    refine a_getr (pc := 31) fl_X7_22 (by assumption) (by decide) (by rfl) dX7_overhears_31 ?_
    refine a_iload_n (pc := 34) dX7_overhears_34 rfl rfl ?_
    refine a_iald (pc := 35)  (by assumption) rfl (by omega) (by decide) dX7_overhears_35 ?_
    refine a_iconst (pc := 36) (v := 2) dX7_overhears_36 (by decide) ?_
    refine a_icmp_ne (pc := 37) (tgt := 51) dX7_overhears_37 (by decide) (fun c_37 => ?_) (fun c_37 => ?_)
    · refine a_aload_n (pc := 51) dX7_overhears_51 rfl rfl ?_
      refine a_getr (pc := 52) fl_X7_22 (by assumption) (by decide) (by rfl) dX7_overhears_52 ?_
      refine a_iload_n (pc := 55) dX7_overhears_55 rfl rfl ?_
      refine a_iald (pc := 56)  (by assumption) rfl (by omega) (by decide) dX7_overhears_56 ?_
      refine a_iconst (pc := 57) (v := 3) dX7_overhears_57 (by decide) ?_
      refine a_icmp_ne (pc := 58) (tgt := 77) dX7_overhears_58 (by decide) (fun c_58 => ?_) (fun c_58 => ?_)
      · refine a_iconst (pc := 77) (v := 0) dX7_overhears_77 (by decide) ?_
        refine a_iadd (pc := 78) dX7_overhears_78 ?_
        refine a_istore (pc := 79) (al' := [some (.ref _), some (.int _), some (.int _), some (.int _), some (.int _), some (.int _), some (.int _), none]) dX7_overhears_79 (by decide) rfl rfl ?_
        refine a_aload_n (pc := 81) dX7_overhears_81 rfl rfl ?_
        refine a_getr (pc := 82) fl_X7_13 (by assumption) (by decide) (by rfl) dX7_overhears_82 ?_
        refine a_iload (pc := 85) dX7_overhears_85 rfl ?_
        refine a_iconst (pc := 87) (v := 3) dX7_overhears_87 (by decide) ?_
        refine a_iaddN (pc := 88) (a := _) (b := 3) rfl rfl dX7_overhears_88 ?_
        refine a_iload (pc := 89) dX7_overhears_89 rfl ?_
        refine a_aload_n (pc := 91) dX7_overhears_91 rfl rfl ?_
        refine a_getr (pc := 92) fl_X7_13 (by assumption) (by decide) (by rfl) dX7_overhears_92 ?_
        refine a_iload (pc := 95) dX7_overhears_95 rfl ?_
        refine a_iconst (pc := 97) (v := 3) dX7_overhears_97 (by decide) ?_
        refine a_iaddN (pc := 98) (a := _) (b := 3) rfl rfl dX7_overhears_98 ?_
        refine a_iald (pc := 99)  (by assumption) rfl (by omega) (by decide) dX7_overhears_99 ?_
        refine a_icmp_le (pc := 100) (tgt := 108) dX7_overhears_100 (by decide) (fun c_100 => ?_) (fun c_100 => ?_)
        · refine a_aload_n (pc := 108) dX7_overhears_108 rfl rfl ?_
          refine a_getr (pc := 109) fl_X7_13 (by assumption) (by decide) (by rfl) dX7_overhears_109 ?_
          refine a_iload (pc := 112) dX7_overhears_112 rfl ?_
          refine a_iconst (pc := 114) (v := 3) dX7_overhears_114 (by decide) ?_
          refine a_iaddN (pc := 115) (a := _) (b := 3) rfl rfl dX7_overhears_115 ?_
          refine a_iald (pc := 116)  (by assumption) rfl (by omega) (by decide) dX7_overhears_116 ?_
          refine a_iast (pc := 117)  (by assumption) rfl (by omega) (by decide) dX7_overhears_117 ?_
          rw [up2_eq]
          refine AW.mono (l3_X7_overhears (h := h) hr hi hj hh (by simp [upd_ap]; exact hg)) ?_
          rintro _ u rfl
          simp_all [ohsF, morF, stlF, -Int32.not_lt, -Int32.not_le, -Nat.not_lt]
        · refine a_iload (pc := 103) dX7_overhears_103 rfl ?_
          refine a_goto (pc := 105) (tgt := 117) dX7_overhears_105 (by decide) ?_
          refine a_iast (pc := 117)  (by assumption) rfl (by omega) (by decide) dX7_overhears_117 ?_
          rw [up2_eq]
          refine AW.mono (l3_X7_overhears (h := h) hr hi hj hh (by simp [upd_ap]; exact hg)) ?_
          rintro _ u rfl
          simp_all [ohsF, morF, stlF, -Int32.not_lt, -Int32.not_le, -Nat.not_lt]
      · refine a_aload_n (pc := 61) dX7_overhears_61 rfl rfl ?_
        refine a_getr (pc := 62) fl_X7_28 (by assumption) (by decide) (by rfl) dX7_overhears_62 ?_
        refine a_iload_n (pc := 65) dX7_overhears_65 rfl rfl ?_
        refine a_iald (pc := 66)  (by assumption) rfl (by omega) (by decide) dX7_overhears_66 ?_
        refine a_aload_n (pc := 67) dX7_overhears_67 rfl rfl ?_
        refine a_getr (pc := 68) fl_X7_31 (by assumption) (by decide) (by rfl) dX7_overhears_68 ?_
        refine a_iload_n (pc := 71) dX7_overhears_71 rfl rfl ?_
        refine a_iald (pc := 72)  (by assumption) rfl (by omega) (by decide) dX7_overhears_72 ?_
        refine a_isub (pc := 73) dX7_overhears_73 ?_
        refine a_goto (pc := 74) (tgt := 78) dX7_overhears_74 (by decide) ?_
        refine a_iadd (pc := 78) dX7_overhears_78 ?_
        refine a_istore (pc := 79) (al' := [some (.ref _), some (.int _), some (.int _), some (.int _), some (.int _), some (.int _), some (.int _), none]) dX7_overhears_79 (by decide) rfl rfl ?_
        refine a_aload_n (pc := 81) dX7_overhears_81 rfl rfl ?_
        refine a_getr (pc := 82) fl_X7_13 (by assumption) (by decide) (by rfl) dX7_overhears_82 ?_
        refine a_iload (pc := 85) dX7_overhears_85 rfl ?_
        refine a_iconst (pc := 87) (v := 3) dX7_overhears_87 (by decide) ?_
        refine a_iaddN (pc := 88) (a := _) (b := 3) rfl rfl dX7_overhears_88 ?_
        refine a_iload (pc := 89) dX7_overhears_89 rfl ?_
        refine a_aload_n (pc := 91) dX7_overhears_91 rfl rfl ?_
        refine a_getr (pc := 92) fl_X7_13 (by assumption) (by decide) (by rfl) dX7_overhears_92 ?_
        refine a_iload (pc := 95) dX7_overhears_95 rfl ?_
        refine a_iconst (pc := 97) (v := 3) dX7_overhears_97 (by decide) ?_
        refine a_iaddN (pc := 98) (a := _) (b := 3) rfl rfl dX7_overhears_98 ?_
        refine a_iald (pc := 99)  (by assumption) rfl (by omega) (by decide) dX7_overhears_99 ?_
        refine a_icmp_le (pc := 100) (tgt := 108) dX7_overhears_100 (by decide) (fun c_100 => ?_) (fun c_100 => ?_)
        · refine a_aload_n (pc := 108) dX7_overhears_108 rfl rfl ?_
          refine a_getr (pc := 109) fl_X7_13 (by assumption) (by decide) (by rfl) dX7_overhears_109 ?_
          refine a_iload (pc := 112) dX7_overhears_112 rfl ?_
          refine a_iconst (pc := 114) (v := 3) dX7_overhears_114 (by decide) ?_
          refine a_iaddN (pc := 115) (a := _) (b := 3) rfl rfl dX7_overhears_115 ?_
          refine a_iald (pc := 116)  (by assumption) rfl (by omega) (by decide) dX7_overhears_116 ?_
          refine a_iast (pc := 117)  (by assumption) rfl (by omega) (by decide) dX7_overhears_117 ?_
          rw [up2_eq]
          refine AW.mono (l3_X7_overhears (h := h) hr hi hj hh (by simp [upd_ap]; exact hg)) ?_
          rintro _ u rfl
          simp_all [ohsF, morF, stlF, -Int32.not_lt, -Int32.not_le, -Nat.not_lt]
        · refine a_iload (pc := 103) dX7_overhears_103 rfl ?_
          refine a_goto (pc := 105) (tgt := 117) dX7_overhears_105 (by decide) ?_
          refine a_iast (pc := 117)  (by assumption) rfl (by omega) (by decide) dX7_overhears_117 ?_
          rw [up2_eq]
          refine AW.mono (l3_X7_overhears (h := h) hr hi hj hh (by simp [upd_ap]; exact hg)) ?_
          rintro _ u rfl
          simp_all [ohsF, morF, stlF, -Int32.not_lt, -Int32.not_le, -Nat.not_lt]
    · refine a_aload_n (pc := 40) dX7_overhears_40 rfl rfl ?_
      refine a_getr (pc := 41) fl_X7_28 (by assumption) (by decide) (by rfl) dX7_overhears_41 ?_
      refine a_iload_n (pc := 44) dX7_overhears_44 rfl rfl ?_
      refine a_iald (pc := 45)  (by assumption) rfl (by omega) (by decide) dX7_overhears_45 ?_
      refine a_iconst (pc := 46) (v := 1) dX7_overhears_46 (by decide) ?_
      refine a_iadd (pc := 47) dX7_overhears_47 ?_
      refine a_goto (pc := 48) (tgt := 78) dX7_overhears_48 (by decide) ?_
      refine a_iadd (pc := 78) dX7_overhears_78 ?_
      refine a_istore (pc := 79) (al' := [some (.ref _), some (.int _), some (.int _), some (.int _), some (.int _), some (.int _), some (.int _), none]) dX7_overhears_79 (by decide) rfl rfl ?_
      refine a_aload_n (pc := 81) dX7_overhears_81 rfl rfl ?_
      refine a_getr (pc := 82) fl_X7_13 (by assumption) (by decide) (by rfl) dX7_overhears_82 ?_
      refine a_iload (pc := 85) dX7_overhears_85 rfl ?_
      refine a_iconst (pc := 87) (v := 3) dX7_overhears_87 (by decide) ?_
      refine a_iaddN (pc := 88) (a := _) (b := 3) rfl rfl dX7_overhears_88 ?_
      refine a_iload (pc := 89) dX7_overhears_89 rfl ?_
      refine a_aload_n (pc := 91) dX7_overhears_91 rfl rfl ?_
      refine a_getr (pc := 92) fl_X7_13 (by assumption) (by decide) (by rfl) dX7_overhears_92 ?_
      refine a_iload (pc := 95) dX7_overhears_95 rfl ?_
      refine a_iconst (pc := 97) (v := 3) dX7_overhears_97 (by decide) ?_
      refine a_iaddN (pc := 98) (a := _) (b := 3) rfl rfl dX7_overhears_98 ?_
      refine a_iald (pc := 99)  (by assumption) rfl (by omega) (by decide) dX7_overhears_99 ?_
      refine a_icmp_le (pc := 100) (tgt := 108) dX7_overhears_100 (by decide) (fun c_100 => ?_) (fun c_100 => ?_)
      · refine a_aload_n (pc := 108) dX7_overhears_108 rfl rfl ?_
        refine a_getr (pc := 109) fl_X7_13 (by assumption) (by decide) (by rfl) dX7_overhears_109 ?_
        refine a_iload (pc := 112) dX7_overhears_112 rfl ?_
        refine a_iconst (pc := 114) (v := 3) dX7_overhears_114 (by decide) ?_
        refine a_iaddN (pc := 115) (a := _) (b := 3) rfl rfl dX7_overhears_115 ?_
        refine a_iald (pc := 116)  (by assumption) rfl (by omega) (by decide) dX7_overhears_116 ?_
        refine a_iast (pc := 117)  (by assumption) rfl (by omega) (by decide) dX7_overhears_117 ?_
        rw [up2_eq]
        refine AW.mono (l3_X7_overhears (h := h) hr hi hj hh (by simp [upd_ap]; exact hg)) ?_
        rintro _ u rfl
        simp_all [ohsF, morF, stlF, -Int32.not_lt, -Int32.not_le, -Nat.not_lt]
      · refine a_iload (pc := 103) dX7_overhears_103 rfl ?_
        refine a_goto (pc := 105) (tgt := 117) dX7_overhears_105 (by decide) ?_
        refine a_iast (pc := 117)  (by assumption) rfl (by omega) (by decide) dX7_overhears_117 ?_
        rw [up2_eq]
        refine AW.mono (l3_X7_overhears (h := h) hr hi hj hh (by simp [upd_ap]; exact hg)) ?_
        rintro _ u rfl
        simp_all [ohsF, morF, stlF, -Int32.not_lt, -Int32.not_le, -Nat.not_lt]
  · refine a_aload_n (pc := 19) dX7_overhears_19 rfl rfl ?_
    refine a_getr (pc := 20) fl_X7_28 (by assumption) (by decide) (by rfl) dX7_overhears_20 ?_
    refine a_iload_n (pc := 23) dX7_overhears_23 rfl rfl ?_
    refine a_iald (pc := 24)  (by assumption) rfl (by omega) (by decide) dX7_overhears_24 ?_
    refine a_iconst (pc := 25) (v := 2) dX7_overhears_25 (by decide) ?_
    refine a_iadd (pc := 26) dX7_overhears_26 ?_
    refine a_goto (pc := 27) (tgt := 78) dX7_overhears_27 (by decide) ?_
    refine a_iadd (pc := 78) dX7_overhears_78 ?_
    refine a_istore (pc := 79) (al' := [some (.ref _), some (.int _), some (.int _), some (.int _), some (.int _), some (.int _), some (.int _), none]) dX7_overhears_79 (by decide) rfl rfl ?_
    refine a_aload_n (pc := 81) dX7_overhears_81 rfl rfl ?_
    refine a_getr (pc := 82) fl_X7_13 (by assumption) (by decide) (by rfl) dX7_overhears_82 ?_
    refine a_iload (pc := 85) dX7_overhears_85 rfl ?_
    refine a_iconst (pc := 87) (v := 3) dX7_overhears_87 (by decide) ?_
    refine a_iaddN (pc := 88) (a := _) (b := 3) rfl rfl dX7_overhears_88 ?_
    refine a_iload (pc := 89) dX7_overhears_89 rfl ?_
    refine a_aload_n (pc := 91) dX7_overhears_91 rfl rfl ?_
    refine a_getr (pc := 92) fl_X7_13 (by assumption) (by decide) (by rfl) dX7_overhears_92 ?_
    refine a_iload (pc := 95) dX7_overhears_95 rfl ?_
    refine a_iconst (pc := 97) (v := 3) dX7_overhears_97 (by decide) ?_
    refine a_iaddN (pc := 98) (a := _) (b := 3) rfl rfl dX7_overhears_98 ?_
    refine a_iald (pc := 99)  (by assumption) rfl (by omega) (by decide) dX7_overhears_99 ?_
    refine a_icmp_le (pc := 100) (tgt := 108) dX7_overhears_100 (by decide) (fun c_100 => ?_) (fun c_100 => ?_)
    · refine a_aload_n (pc := 108) dX7_overhears_108 rfl rfl ?_
      refine a_getr (pc := 109) fl_X7_13 (by assumption) (by decide) (by rfl) dX7_overhears_109 ?_
      refine a_iload (pc := 112) dX7_overhears_112 rfl ?_
      refine a_iconst (pc := 114) (v := 3) dX7_overhears_114 (by decide) ?_
      refine a_iaddN (pc := 115) (a := _) (b := 3) rfl rfl dX7_overhears_115 ?_
      refine a_iald (pc := 116)  (by assumption) rfl (by omega) (by decide) dX7_overhears_116 ?_
      refine a_iast (pc := 117)  (by assumption) rfl (by omega) (by decide) dX7_overhears_117 ?_
      rw [up2_eq]
      refine AW.mono (l3_X7_overhears (h := h) hr hi hj hh (by simp [upd_ap]; exact hg)) ?_
      rintro _ u rfl
      simp_all [ohsF, morF, stlF, -Int32.not_lt, -Int32.not_le, -Nat.not_lt]
    · refine a_iload (pc := 103) dX7_overhears_103 rfl ?_
      refine a_goto (pc := 105) (tgt := 117) dX7_overhears_105 (by decide) ?_
      refine a_iast (pc := 117)  (by assumption) rfl (by omega) (by decide) dX7_overhears_117 ?_
      rw [up2_eq]
      refine AW.mono (l3_X7_overhears (h := h) hr hi hj hh (by simp [upd_ap]; exact hg)) ?_
      rintro _ u rfl
      simp_all [ohsF, morF, stlF, -Int32.not_lt, -Int32.not_le, -Nat.not_lt]

