/-! Station -/
set_option maxHeartbeats 4000000 in
set_option maxRecDepth 100000 in
theorem c_X5_tallyOf0 {μ : Mem} {o : Nat} (h : isSt o) : Con shC mX5_tallyOf [.ref o, .int 0] μ (fun r u => r = μ (o + 1) 0 ∧ u = μ) := by
  obtain ⟨h0, hrow, hmem, hs6, hs7⟩ := id h
  have h1 : shC[o + 1]? = some (0, 3, [none, some (o + 2), some (o + 3)]) := hrow.1
  have h2 : shC[o + 2]? = some (100, 6, []) := hrow.2.1
  have h3 : shC[o + 3]? = some (100, 6, []) := hrow.2.2
  have h4 : shC[o + 4]? = some (1, 2, [none, some (o + 5)]) := hmem.1
  have h5 : shC[o + 5]? = some (100, 24, []) := hmem.2
  have h6 : shC[o + 6]? = _ := hs6
  have h7 : shC[o + 7]? = _ := hs7
  refine Con.ofAW (al0 := [some (.ref o), some (.int 0)]) (by decide) rfl (Nat.le_of_ble_eq_true rfl) rfl ?_
  refine a_iload_n (pc := 0) dX5_tallyOf_0 rfl rfl ?_
  refine a_tableIn (pc := 1) (off := 27) (tgt := 28) dX5_tallyOf_1 (by decide) (by decide) (by decide) (by decide) ?_
  refine a_aload_n (pc := 28) dX5_tallyOf_28 rfl rfl ?_
  refine a_getr (pc := 29) fl_X5_12 (by assumption) (by decide) (by rfl) dX5_tallyOf_29 ?_
  refine a_geti (pc := 32) fl_X5_82 (by assumption) (by decide) (by rfl) dX5_tallyOf_32 ?_
  refine a_iret (pc := 35) rfl dX5_tallyOf_35 ?_
  exact ⟨rfl, rfl⟩

set_option maxHeartbeats 4000000 in
set_option maxRecDepth 100000 in
theorem c_X5_tallyOf1 {μ : Mem} {o : Nat} (h : isSt o) : Con shC mX5_tallyOf [.ref o, .int 1] μ (fun r u => r = μ o 6 ∧ u = μ) := by
  obtain ⟨h0, hrow, hmem, hs6, hs7⟩ := id h
  have h1 : shC[o + 1]? = some (0, 3, [none, some (o + 2), some (o + 3)]) := hrow.1
  have h2 : shC[o + 2]? = some (100, 6, []) := hrow.2.1
  have h3 : shC[o + 3]? = some (100, 6, []) := hrow.2.2
  have h4 : shC[o + 4]? = some (1, 2, [none, some (o + 5)]) := hmem.1
  have h5 : shC[o + 5]? = some (100, 24, []) := hmem.2
  have h6 : shC[o + 6]? = _ := hs6
  have h7 : shC[o + 7]? = _ := hs7
  refine Con.ofAW (al0 := [some (.ref o), some (.int 1)]) (by decide) rfl (Nat.le_of_ble_eq_true rfl) rfl ?_
  refine a_iload_n (pc := 0) dX5_tallyOf_0 rfl rfl ?_
  refine a_tableIn (pc := 1) (off := 35) (tgt := 36) dX5_tallyOf_1 (by decide) (by decide) (by decide) (by decide) ?_
  refine a_aload_n (pc := 36) dX5_tallyOf_36 rfl rfl ?_
  refine a_geti (pc := 37) fl_X5_54 (by assumption) (by decide) (by rfl) dX5_tallyOf_37 ?_
  refine a_iret (pc := 40) rfl dX5_tallyOf_40 ?_
  exact ⟨rfl, rfl⟩

set_option maxHeartbeats 4000000 in
set_option maxRecDepth 100000 in
theorem c_X5_tallyOf2 {μ : Mem} {o : Nat} (h : isSt o) : Con shC mX5_tallyOf [.ref o, .int 2] μ (fun r u => r = μ o 7 ∧ u = μ) := by
  obtain ⟨h0, hrow, hmem, hs6, hs7⟩ := id h
  have h1 : shC[o + 1]? = some (0, 3, [none, some (o + 2), some (o + 3)]) := hrow.1
  have h2 : shC[o + 2]? = some (100, 6, []) := hrow.2.1
  have h3 : shC[o + 3]? = some (100, 6, []) := hrow.2.2
  have h4 : shC[o + 4]? = some (1, 2, [none, some (o + 5)]) := hmem.1
  have h5 : shC[o + 5]? = some (100, 24, []) := hmem.2
  have h6 : shC[o + 6]? = _ := hs6
  have h7 : shC[o + 7]? = _ := hs7
  refine Con.ofAW (al0 := [some (.ref o), some (.int 2)]) (by decide) rfl (Nat.le_of_ble_eq_true rfl) rfl ?_
  refine a_iload_n (pc := 0) dX5_tallyOf_0 rfl rfl ?_
  refine a_tableIn (pc := 1) (off := 40) (tgt := 41) dX5_tallyOf_1 (by decide) (by decide) (by decide) (by decide) ?_
  refine a_aload_n (pc := 41) dX5_tallyOf_41 rfl rfl ?_
  refine a_geti (pc := 42) fl_X5_57 (by assumption) (by decide) (by rfl) dX5_tallyOf_42 ?_
  refine a_iret (pc := 45) rfl dX5_tallyOf_45 ?_
  exact ⟨rfl, rfl⟩

set_option maxHeartbeats 4000000 in
set_option maxRecDepth 100000 in
theorem c_X5_tallyOf3 {μ : Mem} {o : Nat} (h : isSt o) : Con shC mX5_tallyOf [.ref o, .int 3] μ (fun r u => r = μ o 5 ∧ u = μ) := by
  obtain ⟨h0, hrow, hmem, hs6, hs7⟩ := id h
  have h1 : shC[o + 1]? = some (0, 3, [none, some (o + 2), some (o + 3)]) := hrow.1
  have h2 : shC[o + 2]? = some (100, 6, []) := hrow.2.1
  have h3 : shC[o + 3]? = some (100, 6, []) := hrow.2.2
  have h4 : shC[o + 4]? = some (1, 2, [none, some (o + 5)]) := hmem.1
  have h5 : shC[o + 5]? = some (100, 24, []) := hmem.2
  have h6 : shC[o + 6]? = _ := hs6
  have h7 : shC[o + 7]? = _ := hs7
  refine Con.ofAW (al0 := [some (.ref o), some (.int 3)]) (by decide) rfl (Nat.le_of_ble_eq_true rfl) rfl ?_
  refine a_iload_n (pc := 0) dX5_tallyOf_0 rfl rfl ?_
  refine a_tableOut (pc := 1) (tgt := 46) dX5_tallyOf_1 (by decide) (by decide) ?_
  refine a_aload_n (pc := 46) dX5_tallyOf_46 rfl rfl ?_
  refine a_geti (pc := 47) fl_X5_51 (by assumption) (by decide) (by rfl) dX5_tallyOf_47 ?_
  refine a_iret (pc := 50) rfl dX5_tallyOf_50 ?_
  exact ⟨rfl, rfl⟩

def sndA (μ : Mem) (o : Nat) (k : Int32) : Mem := if k = 0 then putF μ (o + 7) 0 0 0 0 else if k = 2 ∨ k = 4 then putF μ (o + 7) (μ (o + 6) 0) (μ (o + 6) 1) (μ (o + 6) 2) (μ (o + 6) 3) else putF μ (o + 7) k (μ (o + 2) 0) (μ (o + 3) 0) (μ o 11)
def sndF (μ : Mem) (o : Nat) (k : Int32) : Mem := if k = 3 then up2 (up2 (putF (sndA μ o k) (o + 6) 0 0 0 0) o 11 (μ o 11 + 1)) o 10 (if μ (o + 3) 0 ≤ μ o 11 + 1 then 0 else 1) else putF (sndA μ o k) (o + 6) 0 0 0 0
set_option maxHeartbeats 4000000 in
set_option maxRecDepth 100000 in
theorem c_X5_send {μ : Mem} {o : Nat} {k : Int32} (h : isSt o) : Con shC mX5_send [.ref o, .int k] μ (fun _ u => u = sndF μ o k) := by
  obtain ⟨h0, hrow, hmem, hs6, hs7⟩ := id h
  have h1 : shC[o + 1]? = some (0, 3, [none, some (o + 2), some (o + 3)]) := hrow.1
  have h2 : shC[o + 2]? = some (100, 6, []) := hrow.2.1
  have h3 : shC[o + 3]? = some (100, 6, []) := hrow.2.2
  have h4 : shC[o + 4]? = some (1, 2, [none, some (o + 5)]) := hmem.1
  have h5 : shC[o + 5]? = some (100, 24, []) := hmem.2
  have h6 : shC[o + 6]? = _ := hs6
  have h7 : shC[o + 7]? = _ := hs7
  refine Con.ofAW (al0 := [some (.ref o), some (.int k)]) (by decide) rfl (Nat.le_of_ble_eq_true rfl) rfl ?_
  refine a_iload_n (pc := 0) dX5_send_0 rfl rfl ?_
  refine a_if_ne (pc := 1) (tgt := 14) dX5_send_1 (by decide) (fun c_1 => ?_) (fun c_1 => ?_)
  · refine a_iload_n (pc := 14) dX5_send_14 rfl rfl ?_
    refine a_iconst (pc := 15) (v := 2) dX5_send_15 (by decide) ?_
    refine a_icmp_eq (pc := 16) (tgt := 24) dX5_send_16 (by decide) (fun c_16 => ?_) (fun c_16 => ?_)
    · refine a_aload_n (pc := 24) dX5_send_24 rfl rfl ?_
      refine a_getr (pc := 25) fl_X5_32 (by assumption) (by decide) (by rfl) dX5_send_25 ?_
      refine a_aload_n (pc := 28) dX5_send_28 rfl rfl ?_
      refine a_getr (pc := 29) fl_X5_28 (by assumption) (by decide) (by rfl) dX5_send_29 ?_
      refine a_callV1 (pc := 32) ck_X5_98 ⟨(Nat.le_of_ble_eq_true rfl), (Nat.le_of_ble_eq_true rfl)⟩ (by assumption) (by decide) (Nat.le_of_ble_eq_true rfl) dX5_send_32 rfl (c_X4_copyFrom hs7 hs6) ?_
      rintro u rfl
      refine a_goto (pc := 35) (tgt := 68) dX5_send_35 (by decide) ?_
      refine a_aload_n (pc := 68) dX5_send_68 rfl rfl ?_
      refine a_getr (pc := 69) fl_X5_28 (by assumption) (by decide) (by rfl) dX5_send_69 ?_
      refine a_callV0 (pc := 72) ck_X5_88 ⟨(Nat.le_of_ble_eq_true rfl), (Nat.le_of_ble_eq_true rfl)⟩ (by assumption) (by decide) (Nat.le_of_ble_eq_true rfl) dX5_send_72 rfl (c_X4_clear (by assumption)) ?_
      rintro u rfl
      refine a_iload_n (pc := 75) dX5_send_75 rfl rfl ?_
      refine a_iconst (pc := 76) (v := 3) dX5_send_76 (by decide) ?_
      refine a_icmp_ne (pc := 77) (tgt := 115) dX5_send_77 (by decide) (fun c_77 => ?_) (fun c_77 => ?_)
      · refine a_vret (pc := 115) rfl dX5_send_115 ?_
        simp_all [sndF, sndA, putF, up2, upd, -Int32.not_lt, -Int32.not_le]
      · refine a_aload_n (pc := 80) dX5_send_80 rfl rfl ?_
        refine a_dup (pc := 81) dX5_send_81 rfl ?_
        refine a_geti (pc := 82) fl_X5_70 (by assumption) (by decide) (by rfl) dX5_send_82 ?_
        refine a_iconst (pc := 85) (v := 1) dX5_send_85 (by decide) ?_
        refine a_iadd (pc := 86) dX5_send_86 ?_
        refine a_puti (pc := 87) fp_X5_70 (by assumption) (by decide) (by rfl) dX5_send_87 ?_
        refine a_aload_n (pc := 90) dX5_send_90 rfl rfl ?_
        refine a_aload_n (pc := 91) dX5_send_91 rfl rfl ?_
        refine a_geti (pc := 92) fl_X5_70 (by assumption) (by decide) (by rfl) dX5_send_92 ?_
        refine a_aload_n (pc := 95) dX5_send_95 rfl rfl ?_
        refine a_getr (pc := 96) fl_X5_12 (by assumption) (by decide) (by rfl) dX5_send_96 ?_
        refine a_getr (pc := 99) fl_X5_105 (by assumption) (by decide) (by rfl) dX5_send_99 ?_
        refine a_iconst (pc := 102) (v := 0) dX5_send_102 (by decide) ?_
        refine a_iald (pc := 103) (j := 0) (by assumption) rfl (by omega) (by decide) dX5_send_103 ?_
        refine a_icmp_ge (pc := 104) (tgt := 111) dX5_send_104 (by decide) (fun c_104 => ?_) (fun c_104 => ?_)
        · refine a_iconst (pc := 111) (v := 0) dX5_send_111 (by decide) ?_
          refine a_putx (pc := 112) fp_X5_66 (by rfl) (by rfl) (by assumption) (by decide) (by rfl) dX5_send_112 ?_
          refine a_vret (pc := 115) rfl dX5_send_115 ?_
          simp_all [sndF, sndA, putF, up2, upd, -Int32.not_lt, -Int32.not_le]
        · refine a_iconst (pc := 107) (v := 1) dX5_send_107 (by decide) ?_
          refine a_goto (pc := 108) (tgt := 112) dX5_send_108 (by decide) ?_
          refine a_putx (pc := 112) fp_X5_66 (by rfl) (by rfl) (by assumption) (by decide) (by rfl) dX5_send_112 ?_
          refine a_vret (pc := 115) rfl dX5_send_115 ?_
          simp_all [sndF, sndA, putF, up2, upd, -Int32.not_lt, -Int32.not_le]
    · refine a_iload_n (pc := 19) dX5_send_19 rfl rfl ?_
      refine a_iconst (pc := 20) (v := 4) dX5_send_20 (by decide) ?_
      refine a_icmp_ne (pc := 21) (tgt := 38) dX5_send_21 (by decide) (fun c_21 => ?_) (fun c_21 => ?_)
      · refine a_aload_n (pc := 38) dX5_send_38 rfl rfl ?_
        refine a_getr (pc := 39) fl_X5_32 (by assumption) (by decide) (by rfl) dX5_send_39 ?_
        refine a_iload_n (pc := 42) dX5_send_42 rfl rfl ?_
        refine a_aload_n (pc := 43) dX5_send_43 rfl rfl ?_
        refine a_getr (pc := 44) fl_X5_12 (by assumption) (by decide) (by rfl) dX5_send_44 ?_
        refine a_getr (pc := 47) fl_X5_101 (by assumption) (by decide) (by rfl) dX5_send_47 ?_
        refine a_iconst (pc := 50) (v := 0) dX5_send_50 (by decide) ?_
        refine a_iald (pc := 51) (j := 0) (by assumption) rfl (by omega) (by decide) dX5_send_51 ?_
        refine a_aload_n (pc := 52) dX5_send_52 rfl rfl ?_
        refine a_getr (pc := 53) fl_X5_12 (by assumption) (by decide) (by rfl) dX5_send_53 ?_
        refine a_getr (pc := 56) fl_X5_105 (by assumption) (by decide) (by rfl) dX5_send_56 ?_
        refine a_iconst (pc := 59) (v := 0) dX5_send_59 (by decide) ?_
        refine a_iald (pc := 60) (j := 0) (by assumption) rfl (by omega) (by decide) dX5_send_60 ?_
        refine a_aload_n (pc := 61) dX5_send_61 rfl rfl ?_
        refine a_geti (pc := 62) fl_X5_70 (by assumption) (by decide) (by rfl) dX5_send_62 ?_
        refine a_callV4 (pc := 65) ck_X5_108 ⟨(Nat.le_of_ble_eq_true rfl), (Nat.le_of_ble_eq_true rfl)⟩ (by assumption) (by decide) (Nat.le_of_ble_eq_true rfl) dX5_send_65 rfl (c_X4_put (by assumption)) ?_
        rintro u rfl
        refine a_aload_n (pc := 68) dX5_send_68 rfl rfl ?_
        refine a_getr (pc := 69) fl_X5_28 (by assumption) (by decide) (by rfl) dX5_send_69 ?_
        refine a_callV0 (pc := 72) ck_X5_88 ⟨(Nat.le_of_ble_eq_true rfl), (Nat.le_of_ble_eq_true rfl)⟩ (by assumption) (by decide) (Nat.le_of_ble_eq_true rfl) dX5_send_72 rfl (c_X4_clear (by assumption)) ?_
        rintro u rfl
        refine a_iload_n (pc := 75) dX5_send_75 rfl rfl ?_
        refine a_iconst (pc := 76) (v := 3) dX5_send_76 (by decide) ?_
        refine a_icmp_ne (pc := 77) (tgt := 115) dX5_send_77 (by decide) (fun c_77 => ?_) (fun c_77 => ?_)
        · refine a_vret (pc := 115) rfl dX5_send_115 ?_
          simp_all [sndF, sndA, putF, up2, upd, -Int32.not_lt, -Int32.not_le]
        · refine a_aload_n (pc := 80) dX5_send_80 rfl rfl ?_
          refine a_dup (pc := 81) dX5_send_81 rfl ?_
          refine a_geti (pc := 82) fl_X5_70 (by assumption) (by decide) (by rfl) dX5_send_82 ?_
          refine a_iconst (pc := 85) (v := 1) dX5_send_85 (by decide) ?_
          refine a_iadd (pc := 86) dX5_send_86 ?_
          refine a_puti (pc := 87) fp_X5_70 (by assumption) (by decide) (by rfl) dX5_send_87 ?_
          refine a_aload_n (pc := 90) dX5_send_90 rfl rfl ?_
          refine a_aload_n (pc := 91) dX5_send_91 rfl rfl ?_
          refine a_geti (pc := 92) fl_X5_70 (by assumption) (by decide) (by rfl) dX5_send_92 ?_
          refine a_aload_n (pc := 95) dX5_send_95 rfl rfl ?_
          refine a_getr (pc := 96) fl_X5_12 (by assumption) (by decide) (by rfl) dX5_send_96 ?_
          refine a_getr (pc := 99) fl_X5_105 (by assumption) (by decide) (by rfl) dX5_send_99 ?_
          refine a_iconst (pc := 102) (v := 0) dX5_send_102 (by decide) ?_
          refine a_iald (pc := 103) (j := 0) (by assumption) rfl (by omega) (by decide) dX5_send_103 ?_
          refine a_icmp_ge (pc := 104) (tgt := 111) dX5_send_104 (by decide) (fun c_104 => ?_) (fun c_104 => ?_)
          · refine a_iconst (pc := 111) (v := 0) dX5_send_111 (by decide) ?_
            refine a_putx (pc := 112) fp_X5_66 (by rfl) (by rfl) (by assumption) (by decide) (by rfl) dX5_send_112 ?_
            refine a_vret (pc := 115) rfl dX5_send_115 ?_
            simp_all [sndF, sndA, putF, up2, upd, -Int32.not_lt, -Int32.not_le]
          · refine a_iconst (pc := 107) (v := 1) dX5_send_107 (by decide) ?_
            refine a_goto (pc := 108) (tgt := 112) dX5_send_108 (by decide) ?_
            refine a_putx (pc := 112) fp_X5_66 (by rfl) (by rfl) (by assumption) (by decide) (by rfl) dX5_send_112 ?_
            refine a_vret (pc := 115) rfl dX5_send_115 ?_
            simp_all [sndF, sndA, putF, up2, upd, -Int32.not_lt, -Int32.not_le]
      · refine a_aload_n (pc := 24) dX5_send_24 rfl rfl ?_
        refine a_getr (pc := 25) fl_X5_32 (by assumption) (by decide) (by rfl) dX5_send_25 ?_
        refine a_aload_n (pc := 28) dX5_send_28 rfl rfl ?_
        refine a_getr (pc := 29) fl_X5_28 (by assumption) (by decide) (by rfl) dX5_send_29 ?_
        refine a_callV1 (pc := 32) ck_X5_98 ⟨(Nat.le_of_ble_eq_true rfl), (Nat.le_of_ble_eq_true rfl)⟩ (by assumption) (by decide) (Nat.le_of_ble_eq_true rfl) dX5_send_32 rfl (c_X4_copyFrom hs7 hs6) ?_
        rintro u rfl
        refine a_goto (pc := 35) (tgt := 68) dX5_send_35 (by decide) ?_
        refine a_aload_n (pc := 68) dX5_send_68 rfl rfl ?_
        refine a_getr (pc := 69) fl_X5_28 (by assumption) (by decide) (by rfl) dX5_send_69 ?_
        refine a_callV0 (pc := 72) ck_X5_88 ⟨(Nat.le_of_ble_eq_true rfl), (Nat.le_of_ble_eq_true rfl)⟩ (by assumption) (by decide) (Nat.le_of_ble_eq_true rfl) dX5_send_72 rfl (c_X4_clear (by assumption)) ?_
        rintro u rfl
        refine a_iload_n (pc := 75) dX5_send_75 rfl rfl ?_
        refine a_iconst (pc := 76) (v := 3) dX5_send_76 (by decide) ?_
        refine a_icmp_ne (pc := 77) (tgt := 115) dX5_send_77 (by decide) (fun c_77 => ?_) (fun c_77 => ?_)
        · refine a_vret (pc := 115) rfl dX5_send_115 ?_
          simp_all [sndF, sndA, putF, up2, upd, -Int32.not_lt, -Int32.not_le]
        · refine a_aload_n (pc := 80) dX5_send_80 rfl rfl ?_
          refine a_dup (pc := 81) dX5_send_81 rfl ?_
          refine a_geti (pc := 82) fl_X5_70 (by assumption) (by decide) (by rfl) dX5_send_82 ?_
          refine a_iconst (pc := 85) (v := 1) dX5_send_85 (by decide) ?_
          refine a_iadd (pc := 86) dX5_send_86 ?_
          refine a_puti (pc := 87) fp_X5_70 (by assumption) (by decide) (by rfl) dX5_send_87 ?_
          refine a_aload_n (pc := 90) dX5_send_90 rfl rfl ?_
          refine a_aload_n (pc := 91) dX5_send_91 rfl rfl ?_
          refine a_geti (pc := 92) fl_X5_70 (by assumption) (by decide) (by rfl) dX5_send_92 ?_
          refine a_aload_n (pc := 95) dX5_send_95 rfl rfl ?_
          refine a_getr (pc := 96) fl_X5_12 (by assumption) (by decide) (by rfl) dX5_send_96 ?_
          refine a_getr (pc := 99) fl_X5_105 (by assumption) (by decide) (by rfl) dX5_send_99 ?_
          refine a_iconst (pc := 102) (v := 0) dX5_send_102 (by decide) ?_
          refine a_iald (pc := 103) (j := 0) (by assumption) rfl (by omega) (by decide) dX5_send_103 ?_
          refine a_icmp_ge (pc := 104) (tgt := 111) dX5_send_104 (by decide) (fun c_104 => ?_) (fun c_104 => ?_)
          · refine a_iconst (pc := 111) (v := 0) dX5_send_111 (by decide) ?_
            refine a_putx (pc := 112) fp_X5_66 (by rfl) (by rfl) (by assumption) (by decide) (by rfl) dX5_send_112 ?_
            refine a_vret (pc := 115) rfl dX5_send_115 ?_
            simp_all [sndF, sndA, putF, up2, upd, -Int32.not_lt, -Int32.not_le]
          · refine a_iconst (pc := 107) (v := 1) dX5_send_107 (by decide) ?_
            refine a_goto (pc := 108) (tgt := 112) dX5_send_108 (by decide) ?_
            refine a_putx (pc := 112) fp_X5_66 (by rfl) (by rfl) (by assumption) (by decide) (by rfl) dX5_send_112 ?_
            refine a_vret (pc := 115) rfl dX5_send_115 ?_
            simp_all [sndF, sndA, putF, up2, upd, -Int32.not_lt, -Int32.not_le]
  · refine a_aload_n (pc := 4) dX5_send_4 rfl rfl ?_
    refine a_getr (pc := 5) fl_X5_32 (by assumption) (by decide) (by rfl) dX5_send_5 ?_
    refine a_callV0 (pc := 8) ck_X5_88 ⟨(Nat.le_of_ble_eq_true rfl), (Nat.le_of_ble_eq_true rfl)⟩ (by assumption) (by decide) (Nat.le_of_ble_eq_true rfl) dX5_send_8 rfl (c_X4_clear (by assumption)) ?_
    rintro u rfl
    refine a_goto (pc := 11) (tgt := 68) dX5_send_11 (by decide) ?_
    refine a_aload_n (pc := 68) dX5_send_68 rfl rfl ?_
    refine a_getr (pc := 69) fl_X5_28 (by assumption) (by decide) (by rfl) dX5_send_69 ?_
    refine a_callV0 (pc := 72) ck_X5_88 ⟨(Nat.le_of_ble_eq_true rfl), (Nat.le_of_ble_eq_true rfl)⟩ (by assumption) (by decide) (Nat.le_of_ble_eq_true rfl) dX5_send_72 rfl (c_X4_clear (by assumption)) ?_
    rintro u rfl
    refine a_iload_n (pc := 75) dX5_send_75 rfl rfl ?_
    refine a_iconst (pc := 76) (v := 3) dX5_send_76 (by decide) ?_
    refine a_icmp_ne (pc := 77) (tgt := 115) dX5_send_77 (by decide) (fun c_77 => ?_) (fun c_77 => ?_)
    · refine a_vret (pc := 115) rfl dX5_send_115 ?_
      simp_all [sndF, sndA, putF, up2, upd, -Int32.not_lt, -Int32.not_le]
    · refine a_aload_n (pc := 80) dX5_send_80 rfl rfl ?_
      refine a_dup (pc := 81) dX5_send_81 rfl ?_
      refine a_geti (pc := 82) fl_X5_70 (by assumption) (by decide) (by rfl) dX5_send_82 ?_
      refine a_iconst (pc := 85) (v := 1) dX5_send_85 (by decide) ?_
      refine a_iadd (pc := 86) dX5_send_86 ?_
      refine a_puti (pc := 87) fp_X5_70 (by assumption) (by decide) (by rfl) dX5_send_87 ?_
      refine a_aload_n (pc := 90) dX5_send_90 rfl rfl ?_
      refine a_aload_n (pc := 91) dX5_send_91 rfl rfl ?_
      refine a_geti (pc := 92) fl_X5_70 (by assumption) (by decide) (by rfl) dX5_send_92 ?_
      refine a_aload_n (pc := 95) dX5_send_95 rfl rfl ?_
      refine a_getr (pc := 96) fl_X5_12 (by assumption) (by decide) (by rfl) dX5_send_96 ?_
      refine a_getr (pc := 99) fl_X5_105 (by assumption) (by decide) (by rfl) dX5_send_99 ?_
      refine a_iconst (pc := 102) (v := 0) dX5_send_102 (by decide) ?_
      refine a_iald (pc := 103) (j := 0) (by assumption) rfl (by omega) (by decide) dX5_send_103 ?_
      refine a_icmp_ge (pc := 104) (tgt := 111) dX5_send_104 (by decide) (fun c_104 => ?_) (fun c_104 => ?_)
      · refine a_iconst (pc := 111) (v := 0) dX5_send_111 (by decide) ?_
        refine a_putx (pc := 112) fp_X5_66 (by rfl) (by rfl) (by assumption) (by decide) (by rfl) dX5_send_112 ?_
        refine a_vret (pc := 115) rfl dX5_send_115 ?_
        simp_all [sndF, sndA, putF, up2, upd, -Int32.not_lt, -Int32.not_le]
      · refine a_iconst (pc := 107) (v := 1) dX5_send_107 (by decide) ?_
        refine a_goto (pc := 108) (tgt := 112) dX5_send_108 (by decide) ?_
        refine a_putx (pc := 112) fp_X5_66 (by rfl) (by rfl) (by assumption) (by decide) (by rfl) dX5_send_112 ?_
        refine a_vret (pc := 115) rfl dX5_send_115 ?_
        simp_all [sndF, sndA, putF, up2, upd, -Int32.not_lt, -Int32.not_le]

def awtF (μ : Mem) (o : Nat) : Mem := if μ (o + 7) 0 = 1 then up2 μ o 9 2 else if μ (o + 7) 0 = 3 ∧ μ o 10 = 0 then up2 μ o 9 4 else μ
set_option maxHeartbeats 4000000 in
set_option maxRecDepth 100000 in
theorem c_X5_awaitAnswer {μ : Mem} {o : Nat} (h : isSt o) : Con shC mX5_awaitAnswer [.ref o] μ (fun _ u => u = awtF μ o) := by
  obtain ⟨h0, hrow, hmem, hs6, hs7⟩ := id h
  have h1 : shC[o + 1]? = some (0, 3, [none, some (o + 2), some (o + 3)]) := hrow.1
  have h2 : shC[o + 2]? = some (100, 6, []) := hrow.2.1
  have h3 : shC[o + 3]? = some (100, 6, []) := hrow.2.2
  have h4 : shC[o + 4]? = some (1, 2, [none, some (o + 5)]) := hmem.1
  have h5 : shC[o + 5]? = some (100, 24, []) := hmem.2
  have h6 : shC[o + 6]? = _ := hs6
  have h7 : shC[o + 7]? = _ := hs7
  refine Con.ofAW (al0 := [some (.ref o)]) (by decide) rfl (Nat.le_of_ble_eq_true rfl) rfl ?_
  refine a_aload_n (pc := 0) dX5_awaitAnswer_0 rfl rfl ?_
  refine a_getr (pc := 1) fl_X5_32 (by assumption) (by decide) (by rfl) dX5_awaitAnswer_1 ?_
  refine a_geti (pc := 4) fl_X5_112 (by assumption) (by decide) (by rfl) dX5_awaitAnswer_4 ?_
  refine a_iconst (pc := 7) (v := 1) dX5_awaitAnswer_7 (by decide) ?_
  refine a_icmp_ne (pc := 8) (tgt := 19) dX5_awaitAnswer_8 (by decide) (fun c_8 => ?_) (fun c_8 => ?_)
  · refine a_aload_n (pc := 19) dX5_awaitAnswer_19 rfl rfl ?_
    refine a_getr (pc := 20) fl_X5_32 (by assumption) (by decide) (by rfl) dX5_awaitAnswer_20 ?_
    refine a_geti (pc := 23) fl_X5_112 (by assumption) (by decide) (by rfl) dX5_awaitAnswer_23 ?_
    refine a_iconst (pc := 26) (v := 3) dX5_awaitAnswer_26 (by decide) ?_
    refine a_icmp_ne (pc := 27) (tgt := 42) dX5_awaitAnswer_27 (by decide) (fun c_27 => ?_) (fun c_27 => ?_)
    · refine a_vret (pc := 42) rfl dX5_awaitAnswer_42 ?_
      simp_all [awtF]
    · refine a_aload_n (pc := 30) dX5_awaitAnswer_30 rfl rfl ?_
      refine a_geti (pc := 31) fl_X5_66 (by assumption) (by decide) (by rfl) dX5_awaitAnswer_31 ?_
      refine a_if_ne (pc := 34) (tgt := 42) dX5_awaitAnswer_34 (by decide) (fun c_34 => ?_) (fun c_34 => ?_)
      · refine a_vret (pc := 42) rfl dX5_awaitAnswer_42 ?_
        simp_all [awtF]
      · refine a_aload_n (pc := 37) dX5_awaitAnswer_37 rfl rfl ?_
        refine a_iconst (pc := 38) (v := 4) dX5_awaitAnswer_38 (by decide) ?_
        refine a_puti (pc := 39) fp_X5_63 (by assumption) (by decide) (by rfl) dX5_awaitAnswer_39 ?_
        refine a_vret (pc := 42) rfl dX5_awaitAnswer_42 ?_
        simp_all [awtF]
  · refine a_aload_n (pc := 11) dX5_awaitAnswer_11 rfl rfl ?_
    refine a_iconst (pc := 12) (v := 2) dX5_awaitAnswer_12 (by decide) ?_
    refine a_puti (pc := 13) fp_X5_63 (by assumption) (by decide) (by rfl) dX5_awaitAnswer_13 ?_
    refine a_goto (pc := 16) (tgt := 42) dX5_awaitAnswer_16 (by decide) ?_
    refine a_vret (pc := 42) rfl dX5_awaitAnswer_42 ?_
    simp_all [awtF]

def mAdd (μ : Mem) (o h : Nat) (a b c d : Int32) : Mem := if h = 6 then mem6F μ o a b c d else memF μ o h a b c d
theorem c_X1_addA {μ : Mem} {o h : Nat} {a b c d : Int32} (hm : isMem o) (hs : μ o 0 = nI h) (hl : h ≤ 6) : Con shC mX1_add [.ref o, .int a, .int b, .int c, .int d] μ (fun _ u => u = mAdd μ o h a b c d) := by
  unfold mAdd
  by_cases e : h = 6
  · rw [if_pos e]; subst e; exact c_X1_add6 hm hs
  · rw [if_neg e]; exact c_X1_add hm hs (by omega)
def morF (k l p : Int32) : Int32 := if k = 1 then l + 2 else if k = 2 then l + 1 else if k = 3 then l - p else 0
def ovhF (μ : Mem) (o h : Nat) (s fr : Int32) (g : Nat) : Mem := up2 (mAdd μ (o + 4) h s fr (μ g 1) (μ g 0)) o 4 (if μ o 4 < s + morF (μ g 0) (μ g 2) (μ g 3) then s + morF (μ g 0) (μ g 2) (μ g 3) else μ o 4)
theorem mAdd_ne {μ : Mem} {o h x : Nat} {a b c d : Int32} (h1 : x ≠ o) (h2 : x ≠ o + 1) : mAdd μ o h a b c d x = μ x := by
  unfold mAdd
  split
  · simp [mem6F, memF, up2, upA, h1, h2]
  · simp [memF, up2, h1, h2]
set_option maxHeartbeats 4000000 in
set_option maxRecDepth 100000 in
theorem c_X5_overhear {μ : Mem} {o g hh : Nat} {s fr : Int32} (h : isSt o) (hg : isSig g) (hd : g < o ∨ o + 7 < g) (hs : μ (o + 4) 0 = nI hh) (hl : hh ≤ 6) : Con shC mX5_overhear [.ref o, .int s, .int fr, .ref g] μ (fun _ u => u = ovhF μ o hh s fr g) := by
  obtain ⟨h0, hrow, hmem, hs6, hs7⟩ := id h
  have h1 : shC[o + 1]? = some (0, 3, [none, some (o + 2), some (o + 3)]) := hrow.1
  have h2 : shC[o + 2]? = some (100, 6, []) := hrow.2.1
  have h3 : shC[o + 3]? = some (100, 6, []) := hrow.2.2
  have h4 : shC[o + 4]? = some (1, 2, [none, some (o + 5)]) := hmem.1
  have h5 : shC[o + 5]? = some (100, 24, []) := hmem.2
  have h6 : shC[o + 6]? = _ := hs6
  have h7 : shC[o + 7]? = _ := hs7
  have hg0 : shC[g]? = _ := hg
  have n0 : g ≠ o := by omega
  have n6 : g ≠ o + 6 := by omega
  have n4 : g ≠ o + 4 := by omega
  have n5 : g ≠ o + 5 := by omega
  have n51 : g ≠ o + 4 + 1 := by omega
  have e1 : mAdd μ (o + 4) hh s fr (μ g 1) (μ g 0) g = μ g := mAdd_ne n4 n51
  have e2 : mAdd μ (o + 4) hh s fr (μ g 1) (μ g 0) o = μ o := mAdd_ne (by omega) (by omega)
  refine Con.ofAW (al0 := [some (.ref o), some (.int s), some (.int fr), some (.ref g), none]) (by decide) rfl (Nat.le_of_ble_eq_true rfl) rfl ?_
  refine a_aload_n (pc := 0) dX5_overhear_0 rfl rfl ?_
  refine a_getr (pc := 1) fl_X5_21 (by assumption) (by decide) (by rfl) dX5_overhear_1 ?_
  refine a_iload_n (pc := 4) dX5_overhear_4 rfl rfl ?_
  refine a_iload_n (pc := 5) dX5_overhear_5 rfl rfl ?_
  refine a_aload_n (pc := 6) dX5_overhear_6 rfl rfl ?_
  refine a_geti (pc := 7) fl_X5_115 (by assumption) (by decide) (by rfl) dX5_overhear_7 ?_
  refine a_aload_n (pc := 10) dX5_overhear_10 rfl rfl ?_
  refine a_geti (pc := 11) fl_X5_112 (by assumption) (by decide) (by rfl) dX5_overhear_11 ?_
  refine a_callV4 (pc := 14) ck_X5_117 ⟨(Nat.le_of_ble_eq_true rfl), (Nat.le_of_ble_eq_true rfl)⟩ (by assumption) (by decide) (Nat.le_of_ble_eq_true rfl) dX5_overhear_14 rfl (c_X1_addA hmem hs hl) ?_
  rintro u rfl
  refine a_iconst (pc := 17) (v := 0) dX5_overhear_17 (by decide) ?_
  refine a_istore (pc := 18) (al' := [some (.ref _), some (.int _), some (.int _), some (.ref _), some (.int _)]) dX5_overhear_18 (by decide) rfl rfl ?_
  refine a_aload_n (pc := 20) dX5_overhear_20 rfl rfl ?_
  refine a_geti (pc := 21) fl_X5_112 (by assumption) (by decide) (by rfl) dX5_overhear_21 ?_
  refine a_iconst (pc := 24) (v := 1) dX5_overhear_24 (by decide) ?_
  refine a_icmp_ne (pc := 25) (tgt := 39) dX5_overhear_25 (by decide) (fun c_25 => ?_) (fun c_25 => ?_)
  · refine a_aload_n (pc := 39) dX5_overhear_39 rfl rfl ?_
    refine a_geti (pc := 40) fl_X5_112 (by assumption) (by decide) (by rfl) dX5_overhear_40 ?_
    refine a_iconst (pc := 43) (v := 2) dX5_overhear_43 (by decide) ?_
    refine a_icmp_ne (pc := 44) (tgt := 58) dX5_overhear_44 (by decide) (fun c_44 => ?_) (fun c_44 => ?_)
    · refine a_aload_n (pc := 58) dX5_overhear_58 rfl rfl ?_
      refine a_geti (pc := 59) fl_X5_112 (by assumption) (by decide) (by rfl) dX5_overhear_59 ?_
      refine a_iconst (pc := 62) (v := 3) dX5_overhear_62 (by decide) ?_
      refine a_icmp_ne (pc := 63) (tgt := 77) dX5_overhear_63 (by decide) (fun c_63 => ?_) (fun c_63 => ?_)
      · refine a_aload_n (pc := 77) dX5_overhear_77 rfl rfl ?_
        refine a_aload_n (pc := 78) dX5_overhear_78 rfl rfl ?_
        refine a_geti (pc := 79) fl_X5_48 (by assumption) (by decide) (by rfl) dX5_overhear_79 ?_
        refine a_iload_n (pc := 82) dX5_overhear_82 rfl rfl ?_
        refine a_iload (pc := 83) dX5_overhear_83 rfl ?_
        refine a_iadd (pc := 85) dX5_overhear_85 ?_
        refine a_mmax (pc := 86) nl_X5_125 nw_max1 nw_math nw_max3 (Nat.le_of_ble_eq_true rfl) (Nat.le_of_ble_eq_true rfl) dX5_overhear_86 ?_
        refine a_puti (pc := 89) fp_X5_48 (by assumption) (by decide) (by rfl) dX5_overhear_89 ?_
        refine a_vret (pc := 92) rfl dX5_overhear_92 ?_
        simp_all [ovhF, morF, -Int32.not_lt, -Int32.not_le]
      · refine a_aload_n (pc := 66) dX5_overhear_66 rfl rfl ?_
        refine a_geti (pc := 67) fl_X5_120 (by assumption) (by decide) (by rfl) dX5_overhear_67 ?_
        refine a_aload_n (pc := 70) dX5_overhear_70 rfl rfl ?_
        refine a_geti (pc := 71) fl_X5_122 (by assumption) (by decide) (by rfl) dX5_overhear_71 ?_
        refine a_isub (pc := 74) dX5_overhear_74 ?_
        refine a_istore (pc := 75) (al' := [some (.ref _), some (.int _), some (.int _), some (.ref _), some (.int _)]) dX5_overhear_75 (by decide) rfl rfl ?_
        refine a_aload_n (pc := 77) dX5_overhear_77 rfl rfl ?_
        refine a_aload_n (pc := 78) dX5_overhear_78 rfl rfl ?_
        refine a_geti (pc := 79) fl_X5_48 (by assumption) (by decide) (by rfl) dX5_overhear_79 ?_
        refine a_iload_n (pc := 82) dX5_overhear_82 rfl rfl ?_
        refine a_iload (pc := 83) dX5_overhear_83 rfl ?_
        refine a_iadd (pc := 85) dX5_overhear_85 ?_
        refine a_mmax (pc := 86) nl_X5_125 nw_max1 nw_math nw_max3 (Nat.le_of_ble_eq_true rfl) (Nat.le_of_ble_eq_true rfl) dX5_overhear_86 ?_
        refine a_puti (pc := 89) fp_X5_48 (by assumption) (by decide) (by rfl) dX5_overhear_89 ?_
        refine a_vret (pc := 92) rfl dX5_overhear_92 ?_
        simp_all [ovhF, morF, -Int32.not_lt, -Int32.not_le]
    · refine a_aload_n (pc := 47) dX5_overhear_47 rfl rfl ?_
      refine a_geti (pc := 48) fl_X5_120 (by assumption) (by decide) (by rfl) dX5_overhear_48 ?_
      refine a_iconst (pc := 51) (v := 1) dX5_overhear_51 (by decide) ?_
      refine a_iadd (pc := 52) dX5_overhear_52 ?_
      refine a_istore (pc := 53) (al' := [some (.ref _), some (.int _), some (.int _), some (.ref _), some (.int _)]) dX5_overhear_53 (by decide) rfl rfl ?_
      refine a_goto (pc := 55) (tgt := 77) dX5_overhear_55 (by decide) ?_
      refine a_aload_n (pc := 77) dX5_overhear_77 rfl rfl ?_
      refine a_aload_n (pc := 78) dX5_overhear_78 rfl rfl ?_
      refine a_geti (pc := 79) fl_X5_48 (by assumption) (by decide) (by rfl) dX5_overhear_79 ?_
      refine a_iload_n (pc := 82) dX5_overhear_82 rfl rfl ?_
      refine a_iload (pc := 83) dX5_overhear_83 rfl ?_
      refine a_iadd (pc := 85) dX5_overhear_85 ?_
      refine a_mmax (pc := 86) nl_X5_125 nw_max1 nw_math nw_max3 (Nat.le_of_ble_eq_true rfl) (Nat.le_of_ble_eq_true rfl) dX5_overhear_86 ?_
      refine a_puti (pc := 89) fp_X5_48 (by assumption) (by decide) (by rfl) dX5_overhear_89 ?_
      refine a_vret (pc := 92) rfl dX5_overhear_92 ?_
      simp_all [ovhF, morF, -Int32.not_lt, -Int32.not_le]
  · refine a_aload_n (pc := 28) dX5_overhear_28 rfl rfl ?_
    refine a_geti (pc := 29) fl_X5_120 (by assumption) (by decide) (by rfl) dX5_overhear_29 ?_
    refine a_iconst (pc := 32) (v := 2) dX5_overhear_32 (by decide) ?_
    refine a_iadd (pc := 33) dX5_overhear_33 ?_
    refine a_istore (pc := 34) (al' := [some (.ref _), some (.int _), some (.int _), some (.ref _), some (.int _)]) dX5_overhear_34 (by decide) rfl rfl ?_
    refine a_goto (pc := 36) (tgt := 77) dX5_overhear_36 (by decide) ?_
    refine a_aload_n (pc := 77) dX5_overhear_77 rfl rfl ?_
    refine a_aload_n (pc := 78) dX5_overhear_78 rfl rfl ?_
    refine a_geti (pc := 79) fl_X5_48 (by assumption) (by decide) (by rfl) dX5_overhear_79 ?_
    refine a_iload_n (pc := 82) dX5_overhear_82 rfl rfl ?_
    refine a_iload (pc := 83) dX5_overhear_83 rfl ?_
    refine a_iadd (pc := 85) dX5_overhear_85 ?_
    refine a_mmax (pc := 86) nl_X5_125 nw_max1 nw_math nw_max3 (Nat.le_of_ble_eq_true rfl) (Nat.le_of_ble_eq_true rfl) dX5_overhear_86 ?_
    refine a_puti (pc := 89) fp_X5_48 (by assumption) (by decide) (by rfl) dX5_overhear_89 ?_
    refine a_vret (pc := 92) rfl dX5_overhear_92 ?_
    simp_all [ovhF, morF, -Int32.not_lt, -Int32.not_le]

def tpF (μ : Mem) (o : Nat) (s fr : Int32) (g : Nat) : Mem := if μ g 3 = 0 ∨ (μ o 12 = fr ∧ μ o 13 = μ g 3 ∧ μ o 14 = s - 1) then (if μ g 3 + 1 = μ g 2 then putF (up2 (up2 (up2 μ o 12 fr) o 13 (μ g 3 + 1)) o 14 s) (o + 6) 4 fr (μ g 2) 0 else up2 (up2 (up2 μ o 12 fr) o 13 (μ g 3 + 1)) o 14 s) else μ
set_option maxHeartbeats 4000000 in
set_option maxRecDepth 100000 in
theorem c_X5_takePart {μ : Mem} {o g : Nat} {s fr : Int32} (h : isSt o) (hg : isSig g) (hd : g < o ∨ o + 7 < g) : Con shC mX5_takePart [.ref o, .int s, .int fr, .ref g] μ (fun _ u => u = tpF μ o s fr g) := by
  obtain ⟨h0, hrow, hmem, hs6, hs7⟩ := id h
  have h1 : shC[o + 1]? = some (0, 3, [none, some (o + 2), some (o + 3)]) := hrow.1
  have h2 : shC[o + 2]? = some (100, 6, []) := hrow.2.1
  have h3 : shC[o + 3]? = some (100, 6, []) := hrow.2.2
  have h4 : shC[o + 4]? = some (1, 2, [none, some (o + 5)]) := hmem.1
  have h5 : shC[o + 5]? = some (100, 24, []) := hmem.2
  have h6 : shC[o + 6]? = _ := hs6
  have h7 : shC[o + 7]? = _ := hs7
  have hg0 : shC[g]? = _ := hg
  have n0 : g ≠ o := by omega
  have n6 : g ≠ o + 6 := by omega
  have n4 : g ≠ o + 4 := by omega
  have n5 : g ≠ o + 5 := by omega
  refine Con.ofAW (al0 := [some (.ref o), some (.int s), some (.int fr), some (.ref g), none]) (by decide) rfl (Nat.le_of_ble_eq_true rfl) rfl ?_
  refine a_aload_n (pc := 0) dX5_takePart_0 rfl rfl ?_
  refine a_geti (pc := 1) fl_X5_73 (by assumption) (by decide) (by rfl) dX5_takePart_1 ?_
  refine a_iload_n (pc := 4) dX5_takePart_4 rfl rfl ?_
  refine a_icmp_ne (pc := 5) (tgt := 33) dX5_takePart_5 (by decide) (fun c_5 => ?_) (fun c_5 => ?_)
  · refine a_iconst (pc := 33) (v := 0) dX5_takePart_33 (by decide) ?_
    refine a_istore (pc := 34) (al' := [some (.ref _), some (.int _), some (.int _), some (.ref _), some (.int _)]) dX5_takePart_34 (by decide) rfl rfl ?_
    refine a_aload_n (pc := 36) dX5_takePart_36 rfl rfl ?_
    refine a_geti (pc := 37) fl_X5_122 (by assumption) (by decide) (by rfl) dX5_takePart_37 ?_
    refine a_if_eq (pc := 40) (tgt := 49) dX5_takePart_40 (by decide) (fun c_40 => ?_) (fun c_40 => ?_)
    · refine a_aload_n (pc := 49) dX5_takePart_49 rfl rfl ?_
      refine a_iload_n (pc := 50) dX5_takePart_50 rfl rfl ?_
      refine a_puti (pc := 51) fp_X5_73 (by assumption) (by decide) (by rfl) dX5_takePart_51 ?_
      refine a_aload_n (pc := 54) dX5_takePart_54 rfl rfl ?_
      refine a_aload_n (pc := 55) dX5_takePart_55 rfl rfl ?_
      refine a_geti (pc := 56) fl_X5_122 (by assumption) (by decide) (by rfl) dX5_takePart_56 ?_
      refine a_iconst (pc := 59) (v := 1) dX5_takePart_59 (by decide) ?_
      refine a_iadd (pc := 60) dX5_takePart_60 ?_
      refine a_puti (pc := 61) fp_X5_76 (by assumption) (by decide) (by rfl) dX5_takePart_61 ?_
      refine a_aload_n (pc := 64) dX5_takePart_64 rfl rfl ?_
      refine a_iload_n (pc := 65) dX5_takePart_65 rfl rfl ?_
      refine a_puti (pc := 66) fp_X5_79 (by assumption) (by decide) (by rfl) dX5_takePart_66 ?_
      refine a_aload_n (pc := 69) dX5_takePart_69 rfl rfl ?_
      refine a_geti (pc := 70) fl_X5_76 (by assumption) (by decide) (by rfl) dX5_takePart_70 ?_
      refine a_aload_n (pc := 73) dX5_takePart_73 rfl rfl ?_
      refine a_geti (pc := 74) fl_X5_120 (by assumption) (by decide) (by rfl) dX5_takePart_74 ?_
      refine a_icmp_ne (pc := 77) (tgt := 94) dX5_takePart_77 (by decide) (fun c_77 => ?_) (fun c_77 => ?_)
      · refine a_vret (pc := 94) rfl dX5_takePart_94 ?_
        simp_all [tpF, putF, up2, upd, -Int32.not_lt, -Int32.not_le]
      · refine a_aload_n (pc := 80) dX5_takePart_80 rfl rfl ?_
        refine a_getr (pc := 81) fl_X5_28 (by assumption) (by decide) (by rfl) dX5_takePart_81 ?_
        refine a_iconst (pc := 84) (v := 4) dX5_takePart_84 (by decide) ?_
        refine a_iload_n (pc := 85) dX5_takePart_85 rfl rfl ?_
        refine a_aload_n (pc := 86) dX5_takePart_86 rfl rfl ?_
        refine a_geti (pc := 87) fl_X5_120 (by assumption) (by decide) (by rfl) dX5_takePart_87 ?_
        refine a_iconst (pc := 90) (v := 0) dX5_takePart_90 (by decide) ?_
        refine a_callV4 (pc := 91) ck_X5_108 ⟨(Nat.le_of_ble_eq_true rfl), (Nat.le_of_ble_eq_true rfl)⟩ (by assumption) (by decide) (Nat.le_of_ble_eq_true rfl) dX5_takePart_91 rfl (c_X4_put (by assumption)) ?_
        rintro u rfl
        refine a_vret (pc := 94) rfl dX5_takePart_94 ?_
        simp_all [tpF, putF, up2, upd, -Int32.not_lt, -Int32.not_le]
    · refine a_iload (pc := 43) dX5_takePart_43 rfl ?_
      refine a_if_ne (pc := 45) (tgt := 49) dX5_takePart_45 (by decide) (fun c_45 => ?_) (fun c_45 => ?_)
      · refine a_aload_n (pc := 49) dX5_takePart_49 rfl rfl ?_
        refine a_iload_n (pc := 50) dX5_takePart_50 rfl rfl ?_
        refine a_puti (pc := 51) fp_X5_73 (by assumption) (by decide) (by rfl) dX5_takePart_51 ?_
        refine a_aload_n (pc := 54) dX5_takePart_54 rfl rfl ?_
        refine a_aload_n (pc := 55) dX5_takePart_55 rfl rfl ?_
        refine a_geti (pc := 56) fl_X5_122 (by assumption) (by decide) (by rfl) dX5_takePart_56 ?_
        refine a_iconst (pc := 59) (v := 1) dX5_takePart_59 (by decide) ?_
        refine a_iadd (pc := 60) dX5_takePart_60 ?_
        refine a_puti (pc := 61) fp_X5_76 (by assumption) (by decide) (by rfl) dX5_takePart_61 ?_
        refine a_aload_n (pc := 64) dX5_takePart_64 rfl rfl ?_
        refine a_iload_n (pc := 65) dX5_takePart_65 rfl rfl ?_
        refine a_puti (pc := 66) fp_X5_79 (by assumption) (by decide) (by rfl) dX5_takePart_66 ?_
        refine a_aload_n (pc := 69) dX5_takePart_69 rfl rfl ?_
        refine a_geti (pc := 70) fl_X5_76 (by assumption) (by decide) (by rfl) dX5_takePart_70 ?_
        refine a_aload_n (pc := 73) dX5_takePart_73 rfl rfl ?_
        refine a_geti (pc := 74) fl_X5_120 (by assumption) (by decide) (by rfl) dX5_takePart_74 ?_
        refine a_icmp_ne (pc := 77) (tgt := 94) dX5_takePart_77 (by decide) (fun c_77 => ?_) (fun c_77 => ?_)
        · refine a_vret (pc := 94) rfl dX5_takePart_94 ?_
          simp_all [tpF, putF, up2, upd, -Int32.not_lt, -Int32.not_le]
        · refine a_aload_n (pc := 80) dX5_takePart_80 rfl rfl ?_
          refine a_getr (pc := 81) fl_X5_28 (by assumption) (by decide) (by rfl) dX5_takePart_81 ?_
          refine a_iconst (pc := 84) (v := 4) dX5_takePart_84 (by decide) ?_
          refine a_iload_n (pc := 85) dX5_takePart_85 rfl rfl ?_
          refine a_aload_n (pc := 86) dX5_takePart_86 rfl rfl ?_
          refine a_geti (pc := 87) fl_X5_120 (by assumption) (by decide) (by rfl) dX5_takePart_87 ?_
          refine a_iconst (pc := 90) (v := 0) dX5_takePart_90 (by decide) ?_
          refine a_callV4 (pc := 91) ck_X5_108 ⟨(Nat.le_of_ble_eq_true rfl), (Nat.le_of_ble_eq_true rfl)⟩ (by assumption) (by decide) (Nat.le_of_ble_eq_true rfl) dX5_takePart_91 rfl (c_X4_put (by assumption)) ?_
          rintro u rfl
          refine a_vret (pc := 94) rfl dX5_takePart_94 ?_
          simp_all [tpF, putF, up2, upd, -Int32.not_lt, -Int32.not_le]
      · refine a_vret (pc := 48) rfl dX5_takePart_48 ?_
        simp_all [tpF, putF, up2, upd, -Int32.not_lt, -Int32.not_le]
  · refine a_aload_n (pc := 8) dX5_takePart_8 rfl rfl ?_
    refine a_geti (pc := 9) fl_X5_76 (by assumption) (by decide) (by rfl) dX5_takePart_9 ?_
    refine a_aload_n (pc := 12) dX5_takePart_12 rfl rfl ?_
    refine a_geti (pc := 13) fl_X5_122 (by assumption) (by decide) (by rfl) dX5_takePart_13 ?_
    refine a_icmp_ne (pc := 16) (tgt := 33) dX5_takePart_16 (by decide) (fun c_16 => ?_) (fun c_16 => ?_)
    · refine a_iconst (pc := 33) (v := 0) dX5_takePart_33 (by decide) ?_
      refine a_istore (pc := 34) (al' := [some (.ref _), some (.int _), some (.int _), some (.ref _), some (.int _)]) dX5_takePart_34 (by decide) rfl rfl ?_
      refine a_aload_n (pc := 36) dX5_takePart_36 rfl rfl ?_
      refine a_geti (pc := 37) fl_X5_122 (by assumption) (by decide) (by rfl) dX5_takePart_37 ?_
      refine a_if_eq (pc := 40) (tgt := 49) dX5_takePart_40 (by decide) (fun c_40 => ?_) (fun c_40 => ?_)
      · refine a_aload_n (pc := 49) dX5_takePart_49 rfl rfl ?_
        refine a_iload_n (pc := 50) dX5_takePart_50 rfl rfl ?_
        refine a_puti (pc := 51) fp_X5_73 (by assumption) (by decide) (by rfl) dX5_takePart_51 ?_
        refine a_aload_n (pc := 54) dX5_takePart_54 rfl rfl ?_
        refine a_aload_n (pc := 55) dX5_takePart_55 rfl rfl ?_
        refine a_geti (pc := 56) fl_X5_122 (by assumption) (by decide) (by rfl) dX5_takePart_56 ?_
        refine a_iconst (pc := 59) (v := 1) dX5_takePart_59 (by decide) ?_
        refine a_iadd (pc := 60) dX5_takePart_60 ?_
        refine a_puti (pc := 61) fp_X5_76 (by assumption) (by decide) (by rfl) dX5_takePart_61 ?_
        refine a_aload_n (pc := 64) dX5_takePart_64 rfl rfl ?_
        refine a_iload_n (pc := 65) dX5_takePart_65 rfl rfl ?_
        refine a_puti (pc := 66) fp_X5_79 (by assumption) (by decide) (by rfl) dX5_takePart_66 ?_
        refine a_aload_n (pc := 69) dX5_takePart_69 rfl rfl ?_
        refine a_geti (pc := 70) fl_X5_76 (by assumption) (by decide) (by rfl) dX5_takePart_70 ?_
        refine a_aload_n (pc := 73) dX5_takePart_73 rfl rfl ?_
        refine a_geti (pc := 74) fl_X5_120 (by assumption) (by decide) (by rfl) dX5_takePart_74 ?_
        refine a_icmp_ne (pc := 77) (tgt := 94) dX5_takePart_77 (by decide) (fun c_77 => ?_) (fun c_77 => ?_)
        · refine a_vret (pc := 94) rfl dX5_takePart_94 ?_
          simp_all [tpF, putF, up2, upd, -Int32.not_lt, -Int32.not_le]
        · refine a_aload_n (pc := 80) dX5_takePart_80 rfl rfl ?_
          refine a_getr (pc := 81) fl_X5_28 (by assumption) (by decide) (by rfl) dX5_takePart_81 ?_
          refine a_iconst (pc := 84) (v := 4) dX5_takePart_84 (by decide) ?_
          refine a_iload_n (pc := 85) dX5_takePart_85 rfl rfl ?_
          refine a_aload_n (pc := 86) dX5_takePart_86 rfl rfl ?_
          refine a_geti (pc := 87) fl_X5_120 (by assumption) (by decide) (by rfl) dX5_takePart_87 ?_
          refine a_iconst (pc := 90) (v := 0) dX5_takePart_90 (by decide) ?_
          refine a_callV4 (pc := 91) ck_X5_108 ⟨(Nat.le_of_ble_eq_true rfl), (Nat.le_of_ble_eq_true rfl)⟩ (by assumption) (by decide) (Nat.le_of_ble_eq_true rfl) dX5_takePart_91 rfl (c_X4_put (by assumption)) ?_
          rintro u rfl
          refine a_vret (pc := 94) rfl dX5_takePart_94 ?_
          simp_all [tpF, putF, up2, upd, -Int32.not_lt, -Int32.not_le]
      · refine a_iload (pc := 43) dX5_takePart_43 rfl ?_
        refine a_if_ne (pc := 45) (tgt := 49) dX5_takePart_45 (by decide) (fun c_45 => ?_) (fun c_45 => ?_)
        · refine a_aload_n (pc := 49) dX5_takePart_49 rfl rfl ?_
          refine a_iload_n (pc := 50) dX5_takePart_50 rfl rfl ?_
          refine a_puti (pc := 51) fp_X5_73 (by assumption) (by decide) (by rfl) dX5_takePart_51 ?_
          refine a_aload_n (pc := 54) dX5_takePart_54 rfl rfl ?_
          refine a_aload_n (pc := 55) dX5_takePart_55 rfl rfl ?_
          refine a_geti (pc := 56) fl_X5_122 (by assumption) (by decide) (by rfl) dX5_takePart_56 ?_
          refine a_iconst (pc := 59) (v := 1) dX5_takePart_59 (by decide) ?_
          refine a_iadd (pc := 60) dX5_takePart_60 ?_
          refine a_puti (pc := 61) fp_X5_76 (by assumption) (by decide) (by rfl) dX5_takePart_61 ?_
          refine a_aload_n (pc := 64) dX5_takePart_64 rfl rfl ?_
          refine a_iload_n (pc := 65) dX5_takePart_65 rfl rfl ?_
          refine a_puti (pc := 66) fp_X5_79 (by assumption) (by decide) (by rfl) dX5_takePart_66 ?_
          refine a_aload_n (pc := 69) dX5_takePart_69 rfl rfl ?_
          refine a_geti (pc := 70) fl_X5_76 (by assumption) (by decide) (by rfl) dX5_takePart_70 ?_
          refine a_aload_n (pc := 73) dX5_takePart_73 rfl rfl ?_
          refine a_geti (pc := 74) fl_X5_120 (by assumption) (by decide) (by rfl) dX5_takePart_74 ?_
          refine a_icmp_ne (pc := 77) (tgt := 94) dX5_takePart_77 (by decide) (fun c_77 => ?_) (fun c_77 => ?_)
          · refine a_vret (pc := 94) rfl dX5_takePart_94 ?_
            simp_all [tpF, putF, up2, upd, -Int32.not_lt, -Int32.not_le]
          · refine a_aload_n (pc := 80) dX5_takePart_80 rfl rfl ?_
            refine a_getr (pc := 81) fl_X5_28 (by assumption) (by decide) (by rfl) dX5_takePart_81 ?_
            refine a_iconst (pc := 84) (v := 4) dX5_takePart_84 (by decide) ?_
            refine a_iload_n (pc := 85) dX5_takePart_85 rfl rfl ?_
            refine a_aload_n (pc := 86) dX5_takePart_86 rfl rfl ?_
            refine a_geti (pc := 87) fl_X5_120 (by assumption) (by decide) (by rfl) dX5_takePart_87 ?_
            refine a_iconst (pc := 90) (v := 0) dX5_takePart_90 (by decide) ?_
            refine a_callV4 (pc := 91) ck_X5_108 ⟨(Nat.le_of_ble_eq_true rfl), (Nat.le_of_ble_eq_true rfl)⟩ (by assumption) (by decide) (Nat.le_of_ble_eq_true rfl) dX5_takePart_91 rfl (c_X4_put (by assumption)) ?_
            rintro u rfl
            refine a_vret (pc := 94) rfl dX5_takePart_94 ?_
            simp_all [tpF, putF, up2, upd, -Int32.not_lt, -Int32.not_le]
        · refine a_vret (pc := 48) rfl dX5_takePart_48 ?_
          simp_all [tpF, putF, up2, upd, -Int32.not_lt, -Int32.not_le]
    · refine a_aload_n (pc := 19) dX5_takePart_19 rfl rfl ?_
      refine a_geti (pc := 20) fl_X5_79 (by assumption) (by decide) (by rfl) dX5_takePart_20 ?_
      refine a_iload_n (pc := 23) dX5_takePart_23 rfl rfl ?_
      refine a_iconst (pc := 24) (v := 1) dX5_takePart_24 (by decide) ?_
      refine a_isub (pc := 25) dX5_takePart_25 ?_
      refine a_icmp_ne (pc := 26) (tgt := 33) dX5_takePart_26 (by decide) (fun c_26 => ?_) (fun c_26 => ?_)
      · refine a_iconst (pc := 33) (v := 0) dX5_takePart_33 (by decide) ?_
        refine a_istore (pc := 34) (al' := [some (.ref _), some (.int _), some (.int _), some (.ref _), some (.int _)]) dX5_takePart_34 (by decide) rfl rfl ?_
        refine a_aload_n (pc := 36) dX5_takePart_36 rfl rfl ?_
        refine a_geti (pc := 37) fl_X5_122 (by assumption) (by decide) (by rfl) dX5_takePart_37 ?_
        refine a_if_eq (pc := 40) (tgt := 49) dX5_takePart_40 (by decide) (fun c_40 => ?_) (fun c_40 => ?_)
        · refine a_aload_n (pc := 49) dX5_takePart_49 rfl rfl ?_
          refine a_iload_n (pc := 50) dX5_takePart_50 rfl rfl ?_
          refine a_puti (pc := 51) fp_X5_73 (by assumption) (by decide) (by rfl) dX5_takePart_51 ?_
          refine a_aload_n (pc := 54) dX5_takePart_54 rfl rfl ?_
          refine a_aload_n (pc := 55) dX5_takePart_55 rfl rfl ?_
          refine a_geti (pc := 56) fl_X5_122 (by assumption) (by decide) (by rfl) dX5_takePart_56 ?_
          refine a_iconst (pc := 59) (v := 1) dX5_takePart_59 (by decide) ?_
          refine a_iadd (pc := 60) dX5_takePart_60 ?_
          refine a_puti (pc := 61) fp_X5_76 (by assumption) (by decide) (by rfl) dX5_takePart_61 ?_
          refine a_aload_n (pc := 64) dX5_takePart_64 rfl rfl ?_
          refine a_iload_n (pc := 65) dX5_takePart_65 rfl rfl ?_
          refine a_puti (pc := 66) fp_X5_79 (by assumption) (by decide) (by rfl) dX5_takePart_66 ?_
          refine a_aload_n (pc := 69) dX5_takePart_69 rfl rfl ?_
          refine a_geti (pc := 70) fl_X5_76 (by assumption) (by decide) (by rfl) dX5_takePart_70 ?_
          refine a_aload_n (pc := 73) dX5_takePart_73 rfl rfl ?_
          refine a_geti (pc := 74) fl_X5_120 (by assumption) (by decide) (by rfl) dX5_takePart_74 ?_
          refine a_icmp_ne (pc := 77) (tgt := 94) dX5_takePart_77 (by decide) (fun c_77 => ?_) (fun c_77 => ?_)
          · refine a_vret (pc := 94) rfl dX5_takePart_94 ?_
            simp_all [tpF, putF, up2, upd, -Int32.not_lt, -Int32.not_le]
          · refine a_aload_n (pc := 80) dX5_takePart_80 rfl rfl ?_
            refine a_getr (pc := 81) fl_X5_28 (by assumption) (by decide) (by rfl) dX5_takePart_81 ?_
            refine a_iconst (pc := 84) (v := 4) dX5_takePart_84 (by decide) ?_
            refine a_iload_n (pc := 85) dX5_takePart_85 rfl rfl ?_
            refine a_aload_n (pc := 86) dX5_takePart_86 rfl rfl ?_
            refine a_geti (pc := 87) fl_X5_120 (by assumption) (by decide) (by rfl) dX5_takePart_87 ?_
            refine a_iconst (pc := 90) (v := 0) dX5_takePart_90 (by decide) ?_
            refine a_callV4 (pc := 91) ck_X5_108 ⟨(Nat.le_of_ble_eq_true rfl), (Nat.le_of_ble_eq_true rfl)⟩ (by assumption) (by decide) (Nat.le_of_ble_eq_true rfl) dX5_takePart_91 rfl (c_X4_put (by assumption)) ?_
            rintro u rfl
            refine a_vret (pc := 94) rfl dX5_takePart_94 ?_
            simp_all [tpF, putF, up2, upd, -Int32.not_lt, -Int32.not_le]
        · refine a_iload (pc := 43) dX5_takePart_43 rfl ?_
          refine a_if_ne (pc := 45) (tgt := 49) dX5_takePart_45 (by decide) (fun c_45 => ?_) (fun c_45 => ?_)
          · refine a_aload_n (pc := 49) dX5_takePart_49 rfl rfl ?_
            refine a_iload_n (pc := 50) dX5_takePart_50 rfl rfl ?_
            refine a_puti (pc := 51) fp_X5_73 (by assumption) (by decide) (by rfl) dX5_takePart_51 ?_
            refine a_aload_n (pc := 54) dX5_takePart_54 rfl rfl ?_
            refine a_aload_n (pc := 55) dX5_takePart_55 rfl rfl ?_
            refine a_geti (pc := 56) fl_X5_122 (by assumption) (by decide) (by rfl) dX5_takePart_56 ?_
            refine a_iconst (pc := 59) (v := 1) dX5_takePart_59 (by decide) ?_
            refine a_iadd (pc := 60) dX5_takePart_60 ?_
            refine a_puti (pc := 61) fp_X5_76 (by assumption) (by decide) (by rfl) dX5_takePart_61 ?_
            refine a_aload_n (pc := 64) dX5_takePart_64 rfl rfl ?_
            refine a_iload_n (pc := 65) dX5_takePart_65 rfl rfl ?_
            refine a_puti (pc := 66) fp_X5_79 (by assumption) (by decide) (by rfl) dX5_takePart_66 ?_
            refine a_aload_n (pc := 69) dX5_takePart_69 rfl rfl ?_
            refine a_geti (pc := 70) fl_X5_76 (by assumption) (by decide) (by rfl) dX5_takePart_70 ?_
            refine a_aload_n (pc := 73) dX5_takePart_73 rfl rfl ?_
            refine a_geti (pc := 74) fl_X5_120 (by assumption) (by decide) (by rfl) dX5_takePart_74 ?_
            refine a_icmp_ne (pc := 77) (tgt := 94) dX5_takePart_77 (by decide) (fun c_77 => ?_) (fun c_77 => ?_)
            · refine a_vret (pc := 94) rfl dX5_takePart_94 ?_
              simp_all [tpF, putF, up2, upd, -Int32.not_lt, -Int32.not_le]
            · refine a_aload_n (pc := 80) dX5_takePart_80 rfl rfl ?_
              refine a_getr (pc := 81) fl_X5_28 (by assumption) (by decide) (by rfl) dX5_takePart_81 ?_
              refine a_iconst (pc := 84) (v := 4) dX5_takePart_84 (by decide) ?_
              refine a_iload_n (pc := 85) dX5_takePart_85 rfl rfl ?_
              refine a_aload_n (pc := 86) dX5_takePart_86 rfl rfl ?_
              refine a_geti (pc := 87) fl_X5_120 (by assumption) (by decide) (by rfl) dX5_takePart_87 ?_
              refine a_iconst (pc := 90) (v := 0) dX5_takePart_90 (by decide) ?_
              refine a_callV4 (pc := 91) ck_X5_108 ⟨(Nat.le_of_ble_eq_true rfl), (Nat.le_of_ble_eq_true rfl)⟩ (by assumption) (by decide) (Nat.le_of_ble_eq_true rfl) dX5_takePart_91 rfl (c_X4_put (by assumption)) ?_
              rintro u rfl
              refine a_vret (pc := 94) rfl dX5_takePart_94 ?_
              simp_all [tpF, putF, up2, upd, -Int32.not_lt, -Int32.not_le]
          · refine a_vret (pc := 48) rfl dX5_takePart_48 ?_
            simp_all [tpF, putF, up2, upd, -Int32.not_lt, -Int32.not_le]
      · refine a_iconst (pc := 29) (v := 1) dX5_takePart_29 (by decide) ?_
        refine a_goto (pc := 30) (tgt := 34) dX5_takePart_30 (by decide) ?_
        refine a_istore (pc := 34) (al' := [some (.ref _), some (.int _), some (.int _), some (.ref _), some (.int _)]) dX5_takePart_34 (by decide) rfl rfl ?_
        refine a_aload_n (pc := 36) dX5_takePart_36 rfl rfl ?_
        refine a_geti (pc := 37) fl_X5_122 (by assumption) (by decide) (by rfl) dX5_takePart_37 ?_
        refine a_if_eq (pc := 40) (tgt := 49) dX5_takePart_40 (by decide) (fun c_40 => ?_) (fun c_40 => ?_)
        · refine a_aload_n (pc := 49) dX5_takePart_49 rfl rfl ?_
          refine a_iload_n (pc := 50) dX5_takePart_50 rfl rfl ?_
          refine a_puti (pc := 51) fp_X5_73 (by assumption) (by decide) (by rfl) dX5_takePart_51 ?_
          refine a_aload_n (pc := 54) dX5_takePart_54 rfl rfl ?_
          refine a_aload_n (pc := 55) dX5_takePart_55 rfl rfl ?_
          refine a_geti (pc := 56) fl_X5_122 (by assumption) (by decide) (by rfl) dX5_takePart_56 ?_
          refine a_iconst (pc := 59) (v := 1) dX5_takePart_59 (by decide) ?_
          refine a_iadd (pc := 60) dX5_takePart_60 ?_
          refine a_puti (pc := 61) fp_X5_76 (by assumption) (by decide) (by rfl) dX5_takePart_61 ?_
          refine a_aload_n (pc := 64) dX5_takePart_64 rfl rfl ?_
          refine a_iload_n (pc := 65) dX5_takePart_65 rfl rfl ?_
          refine a_puti (pc := 66) fp_X5_79 (by assumption) (by decide) (by rfl) dX5_takePart_66 ?_
          refine a_aload_n (pc := 69) dX5_takePart_69 rfl rfl ?_
          refine a_geti (pc := 70) fl_X5_76 (by assumption) (by decide) (by rfl) dX5_takePart_70 ?_
          refine a_aload_n (pc := 73) dX5_takePart_73 rfl rfl ?_
          refine a_geti (pc := 74) fl_X5_120 (by assumption) (by decide) (by rfl) dX5_takePart_74 ?_
          refine a_icmp_ne (pc := 77) (tgt := 94) dX5_takePart_77 (by decide) (fun c_77 => ?_) (fun c_77 => ?_)
          · refine a_vret (pc := 94) rfl dX5_takePart_94 ?_
            simp_all [tpF, putF, up2, upd, -Int32.not_lt, -Int32.not_le]
          · refine a_aload_n (pc := 80) dX5_takePart_80 rfl rfl ?_
            refine a_getr (pc := 81) fl_X5_28 (by assumption) (by decide) (by rfl) dX5_takePart_81 ?_
            refine a_iconst (pc := 84) (v := 4) dX5_takePart_84 (by decide) ?_
            refine a_iload_n (pc := 85) dX5_takePart_85 rfl rfl ?_
            refine a_aload_n (pc := 86) dX5_takePart_86 rfl rfl ?_
            refine a_geti (pc := 87) fl_X5_120 (by assumption) (by decide) (by rfl) dX5_takePart_87 ?_
            refine a_iconst (pc := 90) (v := 0) dX5_takePart_90 (by decide) ?_
            refine a_callV4 (pc := 91) ck_X5_108 ⟨(Nat.le_of_ble_eq_true rfl), (Nat.le_of_ble_eq_true rfl)⟩ (by assumption) (by decide) (Nat.le_of_ble_eq_true rfl) dX5_takePart_91 rfl (c_X4_put (by assumption)) ?_
            rintro u rfl
            refine a_vret (pc := 94) rfl dX5_takePart_94 ?_
            simp_all [tpF, putF, up2, upd, -Int32.not_lt, -Int32.not_le]
        · refine a_iload (pc := 43) dX5_takePart_43 rfl ?_
          refine a_if_ne (pc := 45) (tgt := 49) dX5_takePart_45 (by decide) (fun c_45 => ?_) (fun c_45 => ?_)
          · refine a_aload_n (pc := 49) dX5_takePart_49 rfl rfl ?_
            refine a_iload_n (pc := 50) dX5_takePart_50 rfl rfl ?_
            refine a_puti (pc := 51) fp_X5_73 (by assumption) (by decide) (by rfl) dX5_takePart_51 ?_
            refine a_aload_n (pc := 54) dX5_takePart_54 rfl rfl ?_
            refine a_aload_n (pc := 55) dX5_takePart_55 rfl rfl ?_
            refine a_geti (pc := 56) fl_X5_122 (by assumption) (by decide) (by rfl) dX5_takePart_56 ?_
            refine a_iconst (pc := 59) (v := 1) dX5_takePart_59 (by decide) ?_
            refine a_iadd (pc := 60) dX5_takePart_60 ?_
            refine a_puti (pc := 61) fp_X5_76 (by assumption) (by decide) (by rfl) dX5_takePart_61 ?_
            refine a_aload_n (pc := 64) dX5_takePart_64 rfl rfl ?_
            refine a_iload_n (pc := 65) dX5_takePart_65 rfl rfl ?_
            refine a_puti (pc := 66) fp_X5_79 (by assumption) (by decide) (by rfl) dX5_takePart_66 ?_
            refine a_aload_n (pc := 69) dX5_takePart_69 rfl rfl ?_
            refine a_geti (pc := 70) fl_X5_76 (by assumption) (by decide) (by rfl) dX5_takePart_70 ?_
            refine a_aload_n (pc := 73) dX5_takePart_73 rfl rfl ?_
            refine a_geti (pc := 74) fl_X5_120 (by assumption) (by decide) (by rfl) dX5_takePart_74 ?_
            refine a_icmp_ne (pc := 77) (tgt := 94) dX5_takePart_77 (by decide) (fun c_77 => ?_) (fun c_77 => ?_)
            · refine a_vret (pc := 94) rfl dX5_takePart_94 ?_
              simp_all [tpF, putF, up2, upd, -Int32.not_lt, -Int32.not_le]
            · refine a_aload_n (pc := 80) dX5_takePart_80 rfl rfl ?_
              refine a_getr (pc := 81) fl_X5_28 (by assumption) (by decide) (by rfl) dX5_takePart_81 ?_
              refine a_iconst (pc := 84) (v := 4) dX5_takePart_84 (by decide) ?_
              refine a_iload_n (pc := 85) dX5_takePart_85 rfl rfl ?_
              refine a_aload_n (pc := 86) dX5_takePart_86 rfl rfl ?_
              refine a_geti (pc := 87) fl_X5_120 (by assumption) (by decide) (by rfl) dX5_takePart_87 ?_
              refine a_iconst (pc := 90) (v := 0) dX5_takePart_90 (by decide) ?_
              refine a_callV4 (pc := 91) ck_X5_108 ⟨(Nat.le_of_ble_eq_true rfl), (Nat.le_of_ble_eq_true rfl)⟩ (by assumption) (by decide) (Nat.le_of_ble_eq_true rfl) dX5_takePart_91 rfl (c_X4_put (by assumption)) ?_
              rintro u rfl
              refine a_vret (pc := 94) rfl dX5_takePart_94 ?_
              simp_all [tpF, putF, up2, upd, -Int32.not_lt, -Int32.not_le]
          · refine a_vret (pc := 48) rfl dX5_takePart_48 ?_
            simp_all [tpF, putF, up2, upd, -Int32.not_lt, -Int32.not_le]

def takF (μ : Mem) (o : Nat) (s fr : Int32) (g : Nat) : Int32 × Mem := if μ g 0 = 1 ∧ ¬ s ≤ μ o 4 then (0, putF μ (o + 6) 2 fr (μ g 2) 0) else if μ g 0 = 3 then (0, tpF μ o s fr g) else if μ g 0 = 2 ∧ μ o 9 = 2 then (0, up2 (up2 μ o 9 0) o 10 1) else if μ g 0 = 4 ∧ μ o 9 = 4 then (1, up2 μ o 9 0) else (0, μ)
set_option maxHeartbeats 4000000 in
set_option maxRecDepth 100000 in
theorem c_X5_take {μ : Mem} {o g : Nat} {s fr : Int32} (h : isSt o) (hg : isSig g) (hd : g < o ∨ o + 7 < g) : Con shC mX5_take [.ref o, .int s, .int fr, .ref g] μ (fun r u => r = (takF μ o s fr g).1 ∧ u = (takF μ o s fr g).2) := by
  obtain ⟨h0, hrow, hmem, hs6, hs7⟩ := id h
  have h1 : shC[o + 1]? = some (0, 3, [none, some (o + 2), some (o + 3)]) := hrow.1
  have h2 : shC[o + 2]? = some (100, 6, []) := hrow.2.1
  have h3 : shC[o + 3]? = some (100, 6, []) := hrow.2.2
  have h4 : shC[o + 4]? = some (1, 2, [none, some (o + 5)]) := hmem.1
  have h5 : shC[o + 5]? = some (100, 24, []) := hmem.2
  have h6 : shC[o + 6]? = _ := hs6
  have h7 : shC[o + 7]? = _ := hs7
  have hg0 : shC[g]? = _ := hg
  have n0 : g ≠ o := by omega
  have n6 : g ≠ o + 6 := by omega
  have n4 : g ≠ o + 4 := by omega
  have n5 : g ≠ o + 5 := by omega
  refine Con.ofAW (al0 := [some (.ref o), some (.int s), some (.int fr), some (.ref g)]) (by decide) rfl (Nat.le_of_ble_eq_true rfl) rfl ?_
  refine a_aload_n (pc := 0) dX5_take_0 rfl rfl ?_
  refine a_geti (pc := 1) fl_X5_112 (by assumption) (by decide) (by rfl) dX5_take_1 ?_
  refine a_iconst (pc := 4) (v := 1) dX5_take_4 (by decide) ?_
  refine a_icmp_ne (pc := 5) (tgt := 33) dX5_take_5 (by decide) (fun c_5 => ?_) (fun c_5 => ?_)
  · refine a_aload_n (pc := 33) dX5_take_33 rfl rfl ?_
    refine a_geti (pc := 34) fl_X5_112 (by assumption) (by decide) (by rfl) dX5_take_34 ?_
    refine a_iconst (pc := 37) (v := 3) dX5_take_37 (by decide) ?_
    refine a_icmp_ne (pc := 38) (tgt := 51) dX5_take_38 (by decide) (fun c_38 => ?_) (fun c_38 => ?_)
    · refine a_aload_n (pc := 51) dX5_take_51 rfl rfl ?_
      refine a_geti (pc := 52) fl_X5_112 (by assumption) (by decide) (by rfl) dX5_take_52 ?_
      refine a_iconst (pc := 55) (v := 2) dX5_take_55 (by decide) ?_
      refine a_icmp_ne (pc := 56) (tgt := 80) dX5_take_56 (by decide) (fun c_56 => ?_) (fun c_56 => ?_)
      · refine a_aload_n (pc := 80) dX5_take_80 rfl rfl ?_
        refine a_geti (pc := 81) fl_X5_112 (by assumption) (by decide) (by rfl) dX5_take_81 ?_
        refine a_iconst (pc := 84) (v := 4) dX5_take_84 (by decide) ?_
        refine a_icmp_ne (pc := 85) (tgt := 103) dX5_take_85 (by decide) (fun c_85 => ?_) (fun c_85 => ?_)
        · refine a_iconst (pc := 103) (v := 0) dX5_take_103 (by decide) ?_
          refine a_zret (pc := 104) rfl (by rfl) dX5_take_104 ?_
          simp_all [takF, -Int32.not_lt, -Int32.not_le]
        · refine a_aload_n (pc := 88) dX5_take_88 rfl rfl ?_
          refine a_geti (pc := 89) fl_X5_63 (by assumption) (by decide) (by rfl) dX5_take_89 ?_
          refine a_iconst (pc := 92) (v := 4) dX5_take_92 (by decide) ?_
          refine a_icmp_ne (pc := 93) (tgt := 103) dX5_take_93 (by decide) (fun c_93 => ?_) (fun c_93 => ?_)
          · refine a_iconst (pc := 103) (v := 0) dX5_take_103 (by decide) ?_
            refine a_zret (pc := 104) rfl (by rfl) dX5_take_104 ?_
            simp_all [takF, -Int32.not_lt, -Int32.not_le]
          · refine a_aload_n (pc := 96) dX5_take_96 rfl rfl ?_
            refine a_iconst (pc := 97) (v := 0) dX5_take_97 (by decide) ?_
            refine a_puti (pc := 98) fp_X5_63 (by assumption) (by decide) (by rfl) dX5_take_98 ?_
            refine a_iconst (pc := 101) (v := 1) dX5_take_101 (by decide) ?_
            refine a_zret (pc := 102) rfl (by rfl) dX5_take_102 ?_
            simp_all [takF, -Int32.not_lt, -Int32.not_le]
      · refine a_aload_n (pc := 59) dX5_take_59 rfl rfl ?_
        refine a_geti (pc := 60) fl_X5_63 (by assumption) (by decide) (by rfl) dX5_take_60 ?_
        refine a_iconst (pc := 63) (v := 2) dX5_take_63 (by decide) ?_
        refine a_icmp_ne (pc := 64) (tgt := 80) dX5_take_64 (by decide) (fun c_64 => ?_) (fun c_64 => ?_)
        · refine a_aload_n (pc := 80) dX5_take_80 rfl rfl ?_
          refine a_geti (pc := 81) fl_X5_112 (by assumption) (by decide) (by rfl) dX5_take_81 ?_
          refine a_iconst (pc := 84) (v := 4) dX5_take_84 (by decide) ?_
          refine a_icmp_ne (pc := 85) (tgt := 103) dX5_take_85 (by decide) (fun c_85 => ?_) (fun c_85 => ?_)
          · refine a_iconst (pc := 103) (v := 0) dX5_take_103 (by decide) ?_
            refine a_zret (pc := 104) rfl (by rfl) dX5_take_104 ?_
            simp_all [takF, -Int32.not_lt, -Int32.not_le]
          · refine a_aload_n (pc := 88) dX5_take_88 rfl rfl ?_
            refine a_geti (pc := 89) fl_X5_63 (by assumption) (by decide) (by rfl) dX5_take_89 ?_
            refine a_iconst (pc := 92) (v := 4) dX5_take_92 (by decide) ?_
            refine a_icmp_ne (pc := 93) (tgt := 103) dX5_take_93 (by decide) (fun c_93 => ?_) (fun c_93 => ?_)
            · refine a_iconst (pc := 103) (v := 0) dX5_take_103 (by decide) ?_
              refine a_zret (pc := 104) rfl (by rfl) dX5_take_104 ?_
              simp_all [takF, -Int32.not_lt, -Int32.not_le]
            · refine a_aload_n (pc := 96) dX5_take_96 rfl rfl ?_
              refine a_iconst (pc := 97) (v := 0) dX5_take_97 (by decide) ?_
              refine a_puti (pc := 98) fp_X5_63 (by assumption) (by decide) (by rfl) dX5_take_98 ?_
              refine a_iconst (pc := 101) (v := 1) dX5_take_101 (by decide) ?_
              refine a_zret (pc := 102) rfl (by rfl) dX5_take_102 ?_
              simp_all [takF, -Int32.not_lt, -Int32.not_le]
        · refine a_aload_n (pc := 67) dX5_take_67 rfl rfl ?_
          refine a_iconst (pc := 68) (v := 0) dX5_take_68 (by decide) ?_
          refine a_puti (pc := 69) fp_X5_63 (by assumption) (by decide) (by rfl) dX5_take_69 ?_
          refine a_aload_n (pc := 72) dX5_take_72 rfl rfl ?_
          refine a_iconst (pc := 73) (v := 1) dX5_take_73 (by decide) ?_
          refine a_putx (pc := 74) fp_X5_66 (by rfl) (by rfl) (by assumption) (by decide) (by rfl) dX5_take_74 ?_
          refine a_goto (pc := 77) (tgt := 103) dX5_take_77 (by decide) ?_
          refine a_iconst (pc := 103) (v := 0) dX5_take_103 (by decide) ?_
          refine a_zret (pc := 104) rfl (by rfl) dX5_take_104 ?_
          simp_all [takF, -Int32.not_lt, -Int32.not_le]
    · refine a_aload_n (pc := 41) dX5_take_41 rfl rfl ?_
      refine a_iload_n (pc := 42) dX5_take_42 rfl rfl ?_
      refine a_iload_n (pc := 43) dX5_take_43 rfl rfl ?_
      refine a_aload_n (pc := 44) dX5_take_44 rfl rfl ?_
      refine a_callV3 (pc := 45) ck_X5_131 ⟨(Nat.le_of_ble_eq_true rfl), (Nat.le_of_ble_eq_true rfl)⟩ (by assumption) (by decide) (Nat.le_of_ble_eq_true rfl) dX5_take_45 rfl (c_X5_takePart h hg hd) ?_
      rintro u rfl
      refine a_goto (pc := 48) (tgt := 103) dX5_take_48 (by decide) ?_
      refine a_iconst (pc := 103) (v := 0) dX5_take_103 (by decide) ?_
      refine a_zret (pc := 104) rfl (by rfl) dX5_take_104 ?_
      simp_all [takF, -Int32.not_lt, -Int32.not_le]
  · refine a_iload_n (pc := 8) dX5_take_8 rfl rfl ?_
    refine a_aload_n (pc := 9) dX5_take_9 rfl rfl ?_
    refine a_geti (pc := 10) fl_X5_48 (by assumption) (by decide) (by rfl) dX5_take_10 ?_
    refine a_icmp_le (pc := 13) (tgt := 33) dX5_take_13 (by decide) (fun c_13 => ?_) (fun c_13 => ?_)
    · refine a_aload_n (pc := 33) dX5_take_33 rfl rfl ?_
      refine a_geti (pc := 34) fl_X5_112 (by assumption) (by decide) (by rfl) dX5_take_34 ?_
      refine a_iconst (pc := 37) (v := 3) dX5_take_37 (by decide) ?_
      refine a_icmp_ne (pc := 38) (tgt := 51) dX5_take_38 (by decide) (fun c_38 => ?_) (fun c_38 => ?_)
      · refine a_aload_n (pc := 51) dX5_take_51 rfl rfl ?_
        refine a_geti (pc := 52) fl_X5_112 (by assumption) (by decide) (by rfl) dX5_take_52 ?_
        refine a_iconst (pc := 55) (v := 2) dX5_take_55 (by decide) ?_
        refine a_icmp_ne (pc := 56) (tgt := 80) dX5_take_56 (by decide) (fun c_56 => ?_) (fun c_56 => ?_)
        · refine a_aload_n (pc := 80) dX5_take_80 rfl rfl ?_
          refine a_geti (pc := 81) fl_X5_112 (by assumption) (by decide) (by rfl) dX5_take_81 ?_
          refine a_iconst (pc := 84) (v := 4) dX5_take_84 (by decide) ?_
          refine a_icmp_ne (pc := 85) (tgt := 103) dX5_take_85 (by decide) (fun c_85 => ?_) (fun c_85 => ?_)
          · refine a_iconst (pc := 103) (v := 0) dX5_take_103 (by decide) ?_
            refine a_zret (pc := 104) rfl (by rfl) dX5_take_104 ?_
            simp_all [takF, -Int32.not_lt, -Int32.not_le]
          · refine a_aload_n (pc := 88) dX5_take_88 rfl rfl ?_
            refine a_geti (pc := 89) fl_X5_63 (by assumption) (by decide) (by rfl) dX5_take_89 ?_
            refine a_iconst (pc := 92) (v := 4) dX5_take_92 (by decide) ?_
            refine a_icmp_ne (pc := 93) (tgt := 103) dX5_take_93 (by decide) (fun c_93 => ?_) (fun c_93 => ?_)
            · refine a_iconst (pc := 103) (v := 0) dX5_take_103 (by decide) ?_
              refine a_zret (pc := 104) rfl (by rfl) dX5_take_104 ?_
              simp_all [takF, -Int32.not_lt, -Int32.not_le]
            · refine a_aload_n (pc := 96) dX5_take_96 rfl rfl ?_
              refine a_iconst (pc := 97) (v := 0) dX5_take_97 (by decide) ?_
              refine a_puti (pc := 98) fp_X5_63 (by assumption) (by decide) (by rfl) dX5_take_98 ?_
              refine a_iconst (pc := 101) (v := 1) dX5_take_101 (by decide) ?_
              refine a_zret (pc := 102) rfl (by rfl) dX5_take_102 ?_
              simp_all [takF, -Int32.not_lt, -Int32.not_le]
        · refine a_aload_n (pc := 59) dX5_take_59 rfl rfl ?_
          refine a_geti (pc := 60) fl_X5_63 (by assumption) (by decide) (by rfl) dX5_take_60 ?_
          refine a_iconst (pc := 63) (v := 2) dX5_take_63 (by decide) ?_
          refine a_icmp_ne (pc := 64) (tgt := 80) dX5_take_64 (by decide) (fun c_64 => ?_) (fun c_64 => ?_)
          · refine a_aload_n (pc := 80) dX5_take_80 rfl rfl ?_
            refine a_geti (pc := 81) fl_X5_112 (by assumption) (by decide) (by rfl) dX5_take_81 ?_
            refine a_iconst (pc := 84) (v := 4) dX5_take_84 (by decide) ?_
            refine a_icmp_ne (pc := 85) (tgt := 103) dX5_take_85 (by decide) (fun c_85 => ?_) (fun c_85 => ?_)
            · refine a_iconst (pc := 103) (v := 0) dX5_take_103 (by decide) ?_
              refine a_zret (pc := 104) rfl (by rfl) dX5_take_104 ?_
              simp_all [takF, -Int32.not_lt, -Int32.not_le]
            · refine a_aload_n (pc := 88) dX5_take_88 rfl rfl ?_
              refine a_geti (pc := 89) fl_X5_63 (by assumption) (by decide) (by rfl) dX5_take_89 ?_
              refine a_iconst (pc := 92) (v := 4) dX5_take_92 (by decide) ?_
              refine a_icmp_ne (pc := 93) (tgt := 103) dX5_take_93 (by decide) (fun c_93 => ?_) (fun c_93 => ?_)
              · refine a_iconst (pc := 103) (v := 0) dX5_take_103 (by decide) ?_
                refine a_zret (pc := 104) rfl (by rfl) dX5_take_104 ?_
                simp_all [takF, -Int32.not_lt, -Int32.not_le]
              · refine a_aload_n (pc := 96) dX5_take_96 rfl rfl ?_
                refine a_iconst (pc := 97) (v := 0) dX5_take_97 (by decide) ?_
                refine a_puti (pc := 98) fp_X5_63 (by assumption) (by decide) (by rfl) dX5_take_98 ?_
                refine a_iconst (pc := 101) (v := 1) dX5_take_101 (by decide) ?_
                refine a_zret (pc := 102) rfl (by rfl) dX5_take_102 ?_
                simp_all [takF, -Int32.not_lt, -Int32.not_le]
          · refine a_aload_n (pc := 67) dX5_take_67 rfl rfl ?_
            refine a_iconst (pc := 68) (v := 0) dX5_take_68 (by decide) ?_
            refine a_puti (pc := 69) fp_X5_63 (by assumption) (by decide) (by rfl) dX5_take_69 ?_
            refine a_aload_n (pc := 72) dX5_take_72 rfl rfl ?_
            refine a_iconst (pc := 73) (v := 1) dX5_take_73 (by decide) ?_
            refine a_putx (pc := 74) fp_X5_66 (by rfl) (by rfl) (by assumption) (by decide) (by rfl) dX5_take_74 ?_
            refine a_goto (pc := 77) (tgt := 103) dX5_take_77 (by decide) ?_
            refine a_iconst (pc := 103) (v := 0) dX5_take_103 (by decide) ?_
            refine a_zret (pc := 104) rfl (by rfl) dX5_take_104 ?_
            simp_all [takF, -Int32.not_lt, -Int32.not_le]
      · refine a_aload_n (pc := 41) dX5_take_41 rfl rfl ?_
        refine a_iload_n (pc := 42) dX5_take_42 rfl rfl ?_
        refine a_iload_n (pc := 43) dX5_take_43 rfl rfl ?_
        refine a_aload_n (pc := 44) dX5_take_44 rfl rfl ?_
        refine a_callV3 (pc := 45) ck_X5_131 ⟨(Nat.le_of_ble_eq_true rfl), (Nat.le_of_ble_eq_true rfl)⟩ (by assumption) (by decide) (Nat.le_of_ble_eq_true rfl) dX5_take_45 rfl (c_X5_takePart h hg hd) ?_
        rintro u rfl
        refine a_goto (pc := 48) (tgt := 103) dX5_take_48 (by decide) ?_
        refine a_iconst (pc := 103) (v := 0) dX5_take_103 (by decide) ?_
        refine a_zret (pc := 104) rfl (by rfl) dX5_take_104 ?_
        simp_all [takF, -Int32.not_lt, -Int32.not_le]
    · refine a_aload_n (pc := 16) dX5_take_16 rfl rfl ?_
      refine a_getr (pc := 17) fl_X5_28 (by assumption) (by decide) (by rfl) dX5_take_17 ?_
      refine a_iconst (pc := 20) (v := 2) dX5_take_20 (by decide) ?_
      refine a_iload_n (pc := 21) dX5_take_21 rfl rfl ?_
      refine a_aload_n (pc := 22) dX5_take_22 rfl rfl ?_
      refine a_geti (pc := 23) fl_X5_120 (by assumption) (by decide) (by rfl) dX5_take_23 ?_
      refine a_iconst (pc := 26) (v := 0) dX5_take_26 (by decide) ?_
      refine a_callV4 (pc := 27) ck_X5_108 ⟨(Nat.le_of_ble_eq_true rfl), (Nat.le_of_ble_eq_true rfl)⟩ (by assumption) (by decide) (Nat.le_of_ble_eq_true rfl) dX5_take_27 rfl (c_X4_put (by assumption)) ?_
      rintro u rfl
      refine a_goto (pc := 30) (tgt := 103) dX5_take_30 (by decide) ?_
      refine a_iconst (pc := 103) (v := 0) dX5_take_103 (by decide) ?_
      refine a_zret (pc := 104) rfl (by rfl) dX5_take_104 ?_
      simp_all [takF, -Int32.not_lt, -Int32.not_le]

def clsF (μ : Mem) (o s : Nat) (least : Int32) : Mem := up2 (up2 (up2 (rmvF μ (o + 1) s) o 11 0) o 2 0) o 1 least
set_option maxHeartbeats 4000000 in
set_option maxRecDepth 100000 in
theorem c_X5_closeLetter {μ : Mem} {o s : Nat} {least : Int32} (h : isSt o) (hs : μ (o + 1) 0 = nI (s + 1)) (hl : s < 6) : Con shC mX5_closeLetter [.ref o, .int least] μ (fun _ u => u = clsF μ o s least) := by
  obtain ⟨h0, hrow, hmem, hs6, hs7⟩ := id h
  have h1 : shC[o + 1]? = some (0, 3, [none, some (o + 2), some (o + 3)]) := hrow.1
  have h2 : shC[o + 2]? = some (100, 6, []) := hrow.2.1
  have h3 : shC[o + 3]? = some (100, 6, []) := hrow.2.2
  have h4 : shC[o + 4]? = some (1, 2, [none, some (o + 5)]) := hmem.1
  have h5 : shC[o + 5]? = some (100, 24, []) := hmem.2
  have h6 : shC[o + 6]? = _ := hs6
  have h7 : shC[o + 7]? = _ := hs7
  refine Con.ofAW (al0 := [some (.ref o), some (.int least)]) (by decide) rfl (Nat.le_of_ble_eq_true rfl) rfl ?_
  refine a_aload_n (pc := 0) dX5_closeLetter_0 rfl rfl ?_
  refine a_getr (pc := 1) fl_X5_12 (by assumption) (by decide) (by rfl) dX5_closeLetter_1 ?_
  refine a_callV0 (pc := 4) ck_X5_135 ⟨(Nat.le_of_ble_eq_true rfl), (Nat.le_of_ble_eq_true rfl)⟩ (by assumption) (by decide) (Nat.le_of_ble_eq_true rfl) dX5_closeLetter_4 rfl (c_X0_removeFirst hrow hs hl) ?_
  rintro u rfl
  refine a_aload_n (pc := 7) dX5_closeLetter_7 rfl rfl ?_
  refine a_iconst (pc := 8) (v := 0) dX5_closeLetter_8 (by decide) ?_
  refine a_puti (pc := 9) fp_X5_70 (by assumption) (by decide) (by rfl) dX5_closeLetter_9 ?_
  refine a_aload_n (pc := 12) dX5_closeLetter_12 rfl rfl ?_
  refine a_iconst (pc := 13) (v := 0) dX5_closeLetter_13 (by decide) ?_
  refine a_puti (pc := 14) fp_X5_42 (by assumption) (by decide) (by rfl) dX5_closeLetter_14 ?_
  refine a_aload_n (pc := 17) dX5_closeLetter_17 rfl rfl ?_
  refine a_iload_n (pc := 18) dX5_closeLetter_18 rfl rfl ?_
  refine a_puti (pc := 19) fp_X5_39 (by assumption) (by decide) (by rfl) dX5_closeLetter_19 ?_
  refine a_vret (pc := 22) rfl dX5_closeLetter_22 ?_
  exact rfl

def flF (μ : Mem) (o s : Nat) (least most mt : Int32) : Mem := if μ o 2 + 1 < mt then up2 (up2 (up2 (up2 μ o 9 0) o 2 (μ o 2 + 1)) o 11 0) o 1 (if most < 2 * μ o 1 then most else 2 * μ o 1) else clsF (up2 (up2 (up2 μ o 9 0) o 2 (μ o 2 + 1)) o 7 (μ o 7 + 1)) o s least
set_option maxHeartbeats 4000000 in
set_option maxRecDepth 100000 in
theorem c_X5_failLetter {μ : Mem} {o s : Nat} {least most mt : Int32} (h : isSt o) (hs : μ (o + 1) 0 = nI (s + 1)) (hl : s < 6) : Con shC mX5_failLetter [.ref o, .int least, .int most, .int mt] μ (fun _ u => u = flF μ o s least most mt) := by
  obtain ⟨h0, hrow, hmem, hs6, hs7⟩ := id h
  have h1 : shC[o + 1]? = some (0, 3, [none, some (o + 2), some (o + 3)]) := hrow.1
  have h2 : shC[o + 2]? = some (100, 6, []) := hrow.2.1
  have h3 : shC[o + 3]? = some (100, 6, []) := hrow.2.2
  have h4 : shC[o + 4]? = some (1, 2, [none, some (o + 5)]) := hmem.1
  have h5 : shC[o + 5]? = some (100, 24, []) := hmem.2
  have h6 : shC[o + 6]? = _ := hs6
  have h7 : shC[o + 7]? = _ := hs7
  refine Con.ofAW (al0 := [some (.ref o), some (.int least), some (.int most), some (.int mt)]) (by decide) rfl (Nat.le_of_ble_eq_true rfl) rfl ?_
  refine a_aload_n (pc := 0) dX5_failLetter_0 rfl rfl ?_
  refine a_iconst (pc := 1) (v := 0) dX5_failLetter_1 (by decide) ?_
  refine a_puti (pc := 2) fp_X5_63 (by assumption) (by decide) (by rfl) dX5_failLetter_2 ?_
  refine a_aload_n (pc := 5) dX5_failLetter_5 rfl rfl ?_
  refine a_dup (pc := 6) dX5_failLetter_6 rfl ?_
  refine a_geti (pc := 7) fl_X5_42 (by assumption) (by decide) (by rfl) dX5_failLetter_7 ?_
  refine a_iconst (pc := 10) (v := 1) dX5_failLetter_10 (by decide) ?_
  refine a_iadd (pc := 11) dX5_failLetter_11 ?_
  refine a_puti (pc := 12) fp_X5_42 (by assumption) (by decide) (by rfl) dX5_failLetter_12 ?_
  refine a_aload_n (pc := 15) dX5_failLetter_15 rfl rfl ?_
  refine a_geti (pc := 16) fl_X5_42 (by assumption) (by decide) (by rfl) dX5_failLetter_16 ?_
  refine a_iload_n (pc := 19) dX5_failLetter_19 rfl rfl ?_
  refine a_icmp_lt (pc := 20) (tgt := 41) dX5_failLetter_20 (by decide) (fun c_20 => ?_) (fun c_20 => ?_)
  · refine a_aload_n (pc := 41) dX5_failLetter_41 rfl rfl ?_
    refine a_iconst (pc := 42) (v := 0) dX5_failLetter_42 (by decide) ?_
    refine a_puti (pc := 43) fp_X5_70 (by assumption) (by decide) (by rfl) dX5_failLetter_43 ?_
    refine a_aload_n (pc := 46) dX5_failLetter_46 rfl rfl ?_
    refine a_iconst (pc := 47) (v := 2) dX5_failLetter_47 (by decide) ?_
    refine a_aload_n (pc := 48) dX5_failLetter_48 rfl rfl ?_
    refine a_geti (pc := 49) fl_X5_39 (by assumption) (by decide) (by rfl) dX5_failLetter_49 ?_
    refine a_imul (pc := 52) dX5_failLetter_52 ?_
    refine a_iload_n (pc := 53) dX5_failLetter_53 rfl rfl ?_
    refine a_mmin (pc := 54) nl_X5_142 nw_min1 nw_math nw_min3 (Nat.le_of_ble_eq_true rfl) (Nat.le_of_ble_eq_true rfl) dX5_failLetter_54 ?_
    refine a_puti (pc := 57) fp_X5_39 (by assumption) (by decide) (by rfl) dX5_failLetter_57 ?_
    refine a_vret (pc := 60) rfl dX5_failLetter_60 ?_
    simp_all [flF, up2, upd, -Int32.not_lt, -Int32.not_le]
  · refine a_aload_n (pc := 23) dX5_failLetter_23 rfl rfl ?_
    refine a_dup (pc := 24) dX5_failLetter_24 rfl ?_
    refine a_geti (pc := 25) fl_X5_57 (by assumption) (by decide) (by rfl) dX5_failLetter_25 ?_
    refine a_iconst (pc := 28) (v := 1) dX5_failLetter_28 (by decide) ?_
    refine a_iadd (pc := 29) dX5_failLetter_29 ?_
    refine a_puti (pc := 30) fp_X5_57 (by assumption) (by decide) (by rfl) dX5_failLetter_30 ?_
    refine a_aload_n (pc := 33) dX5_failLetter_33 rfl rfl ?_
    refine a_iload_n (pc := 34) dX5_failLetter_34 rfl rfl ?_
    refine a_callV1 (pc := 35) ck_X5_138 ⟨(Nat.le_of_ble_eq_true rfl), (Nat.le_of_ble_eq_true rfl)⟩ (by assumption) (by decide) (Nat.le_of_ble_eq_true rfl) dX5_failLetter_35 rfl (c_X5_closeLetter (s := s) h (by simp [up2, hs]) hl) ?_
    rintro u rfl
    refine a_goto (pc := 38) (tgt := 60) dX5_failLetter_38 (by decide) ?_
    refine a_vret (pc := 60) rfl dX5_failLetter_60 ?_
    simp_all [flF, up2, upd, -Int32.not_lt, -Int32.not_le]
