section
-- ===== PART A: goes FIRST, ahead of the names: the tables' words, and 'selects' of the private methods out of them =====
/-- a private method of a class that the tables say can be made, by its rows of tables_1 -/
def lw_okq (q : MethodName × Nat) : Prop := (q.1.cls ≠ "java/lang/invoke/MethodHandle" ∧ q.1.cls ≠ "java/lang/invoke/VarHandle") ∧ Cond.instantiable q.1.cls q.2 ∈ tables_1 ∧ Cond.privateMethod q.1 ∈ tables_1 ∧ Cond.instanceMethod q.1 ∈ tables_1
theorem lw_p0 : lw_okq (⟨"HeardSlots", "takeText", "()Z"⟩, 8) := ⟨⟨by decide +kernel, by decide +kernel⟩, List.mem_of_getElem? (i := 17) (by decide +kernel), List.mem_of_getElem? (i := 308) (by decide +kernel), List.mem_of_getElem? (i := 309) (by decide +kernel)⟩
theorem lw_p1 : lw_okq (⟨"HeardSlots", "isPair", "(II)Z"⟩, 8) := ⟨⟨by decide +kernel, by decide +kernel⟩, List.mem_of_getElem? (i := 17) (by decide +kernel), List.mem_of_getElem? (i := 485) (by decide +kernel), List.mem_of_getElem? (i := 486) (by decide +kernel)⟩
theorem lw_p2 : lw_okq (⟨"HeardSlots", "isStation", "(I)Z"⟩, 8) := ⟨⟨by decide +kernel, by decide +kernel⟩, List.mem_of_getElem? (i := 17) (by decide +kernel), List.mem_of_getElem? (i := 489) (by decide +kernel), List.mem_of_getElem? (i := 490) (by decide +kernel)⟩
theorem lw_p3 : lw_okq (⟨"HeardSlots", "remember", "()V"⟩, 8) := ⟨⟨by decide +kernel, by decide +kernel⟩, List.mem_of_getElem? (i := 17) (by decide +kernel), List.mem_of_getElem? (i := 494) (by decide +kernel), List.mem_of_getElem? (i := 495) (by decide +kernel)⟩
theorem lw_p4 : lw_okq (⟨"HeardSlots", "mostSentInTrial", "()I"⟩, 8) := ⟨⟨by decide +kernel, by decide +kernel⟩, List.mem_of_getElem? (i := 17) (by decide +kernel), List.mem_of_getElem? (i := 659) (by decide +kernel), List.mem_of_getElem? (i := 660) (by decide +kernel)⟩
theorem lw_p5 : lw_okq (⟨"HeardSlots", "sentInTrial", "(I)I"⟩, 8) := ⟨⟨by decide +kernel, by decide +kernel⟩, List.mem_of_getElem? (i := 17) (by decide +kernel), List.mem_of_getElem? (i := 663) (by decide +kernel), List.mem_of_getElem? (i := 664) (by decide +kernel)⟩
theorem lw_p6 : lw_okq (⟨"HeardSlots", "leastSentInTrial", "()I"⟩, 8) := ⟨⟨by decide +kernel, by decide +kernel⟩, List.mem_of_getElem? (i := 17) (by decide +kernel), List.mem_of_getElem? (i := 668) (by decide +kernel), List.mem_of_getElem? (i := 669) (by decide +kernel)⟩
theorem lw_p7 : lw_okq (⟨"HeardSlotsModel", "clears", "()V"⟩, 18) := ⟨⟨by decide +kernel, by decide +kernel⟩, List.mem_of_getElem? (i := 680) (by decide +kernel), List.mem_of_getElem? (i := 686) (by decide +kernel), List.mem_of_getElem? (i := 687) (by decide +kernel)⟩
theorem lw_p8 : lw_okq (⟨"HeardSlotsModel", "hears", "(III)V"⟩, 18) := ⟨⟨by decide +kernel, by decide +kernel⟩, List.mem_of_getElem? (i := 680) (by decide +kernel), List.mem_of_getElem? (i := 690) (by decide +kernel), List.mem_of_getElem? (i := 691) (by decide +kernel)⟩
theorem lw_p9 : lw_okq (⟨"HeardSlotsModel", "adds", "(IIII)V"⟩, 18) := ⟨⟨by decide +kernel, by decide +kernel⟩, List.mem_of_getElem? (i := 680) (by decide +kernel), List.mem_of_getElem? (i := 694) (by decide +kernel), List.mem_of_getElem? (i := 695) (by decide +kernel)⟩
theorem lw_p10 : lw_okq (⟨"HeardSlotsModel", "takes", "()V"⟩, 18) := ⟨⟨by decide +kernel, by decide +kernel⟩, List.mem_of_getElem? (i := 680) (by decide +kernel), List.mem_of_getElem? (i := 701) (by decide +kernel), List.mem_of_getElem? (i := 702) (by decide +kernel)⟩
theorem lw_p11 : lw_okq (⟨"HeardSlotsModel", "copies", "(II)V"⟩, 18) := ⟨⟨by decide +kernel, by decide +kernel⟩, List.mem_of_getElem? (i := 680) (by decide +kernel), List.mem_of_getElem? (i := 705) (by decide +kernel), List.mem_of_getElem? (i := 706) (by decide +kernel)⟩
theorem lw_p12 : lw_okq (⟨"HeardSlotsModel", "comes", "(II)V"⟩, 18) := ⟨⟨by decide +kernel, by decide +kernel⟩, List.mem_of_getElem? (i := 680) (by decide +kernel), List.mem_of_getElem? (i := 709) (by decide +kernel), List.mem_of_getElem? (i := 710) (by decide +kernel)⟩
theorem lw_p13 : lw_okq (⟨"HeardSlotsModel", "waits", "(II)V"⟩, 18) := ⟨⟨by decide +kernel, by decide +kernel⟩, List.mem_of_getElem? (i := 680) (by decide +kernel), List.mem_of_getElem? (i := 713) (by decide +kernel), List.mem_of_getElem? (i := 714) (by decide +kernel)⟩
theorem lw_p14 : lw_okq (⟨"HeardSlotsModel", "drawn", "(III)I"⟩, 18) := ⟨⟨by decide +kernel, by decide +kernel⟩, List.mem_of_getElem? (i := 680) (by decide +kernel), List.mem_of_getElem? (i := 717) (by decide +kernel), List.mem_of_getElem? (i := 718) (by decide +kernel)⟩
theorem lw_p15 : lw_okq (⟨"HeardSlotsModel", "reads", "()I"⟩, 18) := ⟨⟨by decide +kernel, by decide +kernel⟩, List.mem_of_getElem? (i := 680) (by decide +kernel), List.mem_of_getElem? (i := 792) (by decide +kernel), List.mem_of_getElem? (i := 793) (by decide +kernel)⟩
def lw_privs_1 : List (MethodName × Nat) := [(⟨"HeardSlots", "takeText", "()Z"⟩, 8), (⟨"HeardSlots", "isPair", "(II)Z"⟩, 8), (⟨"HeardSlots", "isStation", "(I)Z"⟩, 8), (⟨"HeardSlots", "remember", "()V"⟩, 8), (⟨"HeardSlots", "mostSentInTrial", "()I"⟩, 8), (⟨"HeardSlots", "sentInTrial", "(I)I"⟩, 8), (⟨"HeardSlots", "leastSentInTrial", "()I"⟩, 8), (⟨"HeardSlotsModel", "clears", "()V"⟩, 18), (⟨"HeardSlotsModel", "hears", "(III)V"⟩, 18), (⟨"HeardSlotsModel", "adds", "(IIII)V"⟩, 18), (⟨"HeardSlotsModel", "takes", "()V"⟩, 18), (⟨"HeardSlotsModel", "copies", "(II)V"⟩, 18), (⟨"HeardSlotsModel", "comes", "(II)V"⟩, 18), (⟨"HeardSlotsModel", "waits", "(II)V"⟩, 18), (⟨"HeardSlotsModel", "drawn", "(III)I"⟩, 18), (⟨"HeardSlotsModel", "reads", "()I"⟩, 18)]
theorem lw_r1 : ∀ q ∈ lw_privs_1, lw_okq q := List.forall_mem_cons.mpr ⟨lw_p0, List.forall_mem_cons.mpr ⟨lw_p1, List.forall_mem_cons.mpr ⟨lw_p2, List.forall_mem_cons.mpr ⟨lw_p3, List.forall_mem_cons.mpr ⟨lw_p4, List.forall_mem_cons.mpr ⟨lw_p5, List.forall_mem_cons.mpr ⟨lw_p6, List.forall_mem_cons.mpr ⟨lw_p7, List.forall_mem_cons.mpr ⟨lw_p8, List.forall_mem_cons.mpr ⟨lw_p9, List.forall_mem_cons.mpr ⟨lw_p10, List.forall_mem_cons.mpr ⟨lw_p11, List.forall_mem_cons.mpr ⟨lw_p12, List.forall_mem_cons.mpr ⟨lw_p13, List.forall_mem_cons.mpr ⟨lw_p14, List.forall_mem_cons.mpr ⟨lw_p15, fun _ h => absurd h List.not_mem_nil⟩⟩⟩⟩⟩⟩⟩⟩⟩⟩⟩⟩⟩⟩⟩⟩
theorem lw_p16 : lw_okq (⟨"HeardSlotsModel", "readsItem", "(IIZ)Z"⟩, 18) := ⟨⟨by decide +kernel, by decide +kernel⟩, List.mem_of_getElem? (i := 680) (by decide +kernel), List.mem_of_getElem? (i := 796) (by decide +kernel), List.mem_of_getElem? (i := 797) (by decide +kernel)⟩
theorem lw_p17 : lw_okq (⟨"HeardSlotsModel", "number", "(III)Z"⟩, 18) := ⟨⟨by decide +kernel, by decide +kernel⟩, List.mem_of_getElem? (i := 680) (by decide +kernel), List.mem_of_getElem? (i := 800) (by decide +kernel), List.mem_of_getElem? (i := 801) (by decide +kernel)⟩
theorem lw_p18 : lw_okq (⟨"HeardSlotsModel", "letterAt", "(I)I"⟩, 18) := ⟨⟨by decide +kernel, by decide +kernel⟩, List.mem_of_getElem? (i := 680) (by decide +kernel), List.mem_of_getElem? (i := 804) (by decide +kernel), List.mem_of_getElem? (i := 805) (by decide +kernel)⟩
theorem lw_p19 : lw_okq (⟨"HeardSlotsModel", "readsPair", "(I)Z"⟩, 18) := ⟨⟨by decide +kernel, by decide +kernel⟩, List.mem_of_getElem? (i := 680) (by decide +kernel), List.mem_of_getElem? (i := 811) (by decide +kernel), List.mem_of_getElem? (i := 812) (by decide +kernel)⟩
theorem lw_p20 : lw_okq (⟨"HeardSlotsModel", "more", "(II)Z"⟩, 18) := ⟨⟨by decide +kernel, by decide +kernel⟩, List.mem_of_getElem? (i := 680) (by decide +kernel), List.mem_of_getElem? (i := 815) (by decide +kernel), List.mem_of_getElem? (i := 816) (by decide +kernel)⟩
theorem lw_p21 : lw_okq (⟨"HeardSlotsModel", "readsLetter", "(I)Z"⟩, 18) := ⟨⟨by decide +kernel, by decide +kernel⟩, List.mem_of_getElem? (i := 680) (by decide +kernel), List.mem_of_getElem? (i := 819) (by decide +kernel), List.mem_of_getElem? (i := 820) (by decide +kernel)⟩
theorem lw_p22 : lw_okq (⟨"HeardSlotsModel", "readsRules", "(III)Z"⟩, 18) := ⟨⟨by decide +kernel, by decide +kernel⟩, List.mem_of_getElem? (i := 680) (by decide +kernel), List.mem_of_getElem? (i := 826) (by decide +kernel), List.mem_of_getElem? (i := 827) (by decide +kernel)⟩
theorem lw_p23 : lw_okq (⟨"HeardSlotsModel", "areTwo", "(II)Z"⟩, 18) := ⟨⟨by decide +kernel, by decide +kernel⟩, List.mem_of_getElem? (i := 680) (by decide +kernel), List.mem_of_getElem? (i := 842) (by decide +kernel), List.mem_of_getElem? (i := 843) (by decide +kernel)⟩
theorem lw_p24 : lw_okq (⟨"HeardSlotsModel", "isStation", "(I)Z"⟩, 18) := ⟨⟨by decide +kernel, by decide +kernel⟩, List.mem_of_getElem? (i := 680) (by decide +kernel), List.mem_of_getElem? (i := 846) (by decide +kernel), List.mem_of_getElem? (i := 847) (by decide +kernel)⟩
theorem lw_p25 : lw_okq (⟨"HeardSlotsModel", "keeps", "()V"⟩, 18) := ⟨⟨by decide +kernel, by decide +kernel⟩, List.mem_of_getElem? (i := 680) (by decide +kernel), List.mem_of_getElem? (i := 850) (by decide +kernel), List.mem_of_getElem? (i := 851) (by decide +kernel)⟩
theorem lw_p26 : lw_okq (⟨"HeardSlotsModel", "hasFor", "(II)Z"⟩, 18) := ⟨⟨by decide +kernel, by decide +kernel⟩, List.mem_of_getElem? (i := 680) (by decide +kernel), List.mem_of_getElem? (i := 858) (by decide +kernel), List.mem_of_getElem? (i := 859) (by decide +kernel)⟩
theorem lw_p27 : lw_okq (⟨"HeardSlotsModel", "pairs", "(I)I"⟩, 18) := ⟨⟨by decide +kernel, by decide +kernel⟩, List.mem_of_getElem? (i := 680) (by decide +kernel), List.mem_of_getElem? (i := 862) (by decide +kernel), List.mem_of_getElem? (i := 863) (by decide +kernel)⟩
theorem lw_p28 : lw_okq (⟨"HeardSlotsModel", "pairOf", "(II)I"⟩, 18) := ⟨⟨by decide +kernel, by decide +kernel⟩, List.mem_of_getElem? (i := 680) (by decide +kernel), List.mem_of_getElem? (i := 866) (by decide +kernel), List.mem_of_getElem? (i := 867) (by decide +kernel)⟩
theorem lw_p29 : lw_okq (⟨"HeardSlotsModel", "all", "(II)I"⟩, 18) := ⟨⟨by decide +kernel, by decide +kernel⟩, List.mem_of_getElem? (i := 680) (by decide +kernel), List.mem_of_getElem? (i := 878) (by decide +kernel), List.mem_of_getElem? (i := 879) (by decide +kernel)⟩
theorem lw_p30 : lw_okq (⟨"HeardSlotsModel", "goes", "(I)V"⟩, 18) := ⟨⟨by decide +kernel, by decide +kernel⟩, List.mem_of_getElem? (i := 680) (by decide +kernel), List.mem_of_getElem? (i := 882) (by decide +kernel), List.mem_of_getElem? (i := 883) (by decide +kernel)⟩
theorem lw_p31 : lw_okq (⟨"HeardSlotsModel", "says", "(III)V"⟩, 18) := ⟨⟨by decide +kernel, by decide +kernel⟩, List.mem_of_getElem? (i := 680) (by decide +kernel), List.mem_of_getElem? (i := 886) (by decide +kernel), List.mem_of_getElem? (i := 887) (by decide +kernel)⟩
def lw_privs_2 : List (MethodName × Nat) := [(⟨"HeardSlotsModel", "readsItem", "(IIZ)Z"⟩, 18), (⟨"HeardSlotsModel", "number", "(III)Z"⟩, 18), (⟨"HeardSlotsModel", "letterAt", "(I)I"⟩, 18), (⟨"HeardSlotsModel", "readsPair", "(I)Z"⟩, 18), (⟨"HeardSlotsModel", "more", "(II)Z"⟩, 18), (⟨"HeardSlotsModel", "readsLetter", "(I)Z"⟩, 18), (⟨"HeardSlotsModel", "readsRules", "(III)Z"⟩, 18), (⟨"HeardSlotsModel", "areTwo", "(II)Z"⟩, 18), (⟨"HeardSlotsModel", "isStation", "(I)Z"⟩, 18), (⟨"HeardSlotsModel", "keeps", "()V"⟩, 18), (⟨"HeardSlotsModel", "hasFor", "(II)Z"⟩, 18), (⟨"HeardSlotsModel", "pairs", "(I)I"⟩, 18), (⟨"HeardSlotsModel", "pairOf", "(II)I"⟩, 18), (⟨"HeardSlotsModel", "all", "(II)I"⟩, 18), (⟨"HeardSlotsModel", "goes", "(I)V"⟩, 18), (⟨"HeardSlotsModel", "says", "(III)V"⟩, 18)]
theorem lw_r2 : ∀ q ∈ lw_privs_2, lw_okq q := List.forall_mem_cons.mpr ⟨lw_p16, List.forall_mem_cons.mpr ⟨lw_p17, List.forall_mem_cons.mpr ⟨lw_p18, List.forall_mem_cons.mpr ⟨lw_p19, List.forall_mem_cons.mpr ⟨lw_p20, List.forall_mem_cons.mpr ⟨lw_p21, List.forall_mem_cons.mpr ⟨lw_p22, List.forall_mem_cons.mpr ⟨lw_p23, List.forall_mem_cons.mpr ⟨lw_p24, List.forall_mem_cons.mpr ⟨lw_p25, List.forall_mem_cons.mpr ⟨lw_p26, List.forall_mem_cons.mpr ⟨lw_p27, List.forall_mem_cons.mpr ⟨lw_p28, List.forall_mem_cons.mpr ⟨lw_p29, List.forall_mem_cons.mpr ⟨lw_p30, List.forall_mem_cons.mpr ⟨lw_p31, fun _ h => absurd h List.not_mem_nil⟩⟩⟩⟩⟩⟩⟩⟩⟩⟩⟩⟩⟩⟩⟩⟩
theorem lw_p32 : lw_okq (⟨"HeardSlotsModel", "mayBegin", "(III)Z"⟩, 18) := ⟨⟨by decide +kernel, by decide +kernel⟩, List.mem_of_getElem? (i := 680) (by decide +kernel), List.mem_of_getElem? (i := 890) (by decide +kernel), List.mem_of_getElem? (i := 891) (by decide +kernel)⟩
theorem lw_p33 : lw_okq (⟨"HeardSlotsModel", "isFree", "(III)Z"⟩, 18) := ⟨⟨by decide +kernel, by decide +kernel⟩, List.mem_of_getElem? (i := 680) (by decide +kernel), List.mem_of_getElem? (i := 894) (by decide +kernel), List.mem_of_getElem? (i := 895) (by decide +kernel)⟩
theorem lw_p34 : lw_okq (⟨"HeardSlotsModel", "sends", "(III)V"⟩, 18) := ⟨⟨by decide +kernel, by decide +kernel⟩, List.mem_of_getElem? (i := 680) (by decide +kernel), List.mem_of_getElem? (i := 898) (by decide +kernel), List.mem_of_getElem? (i := 899) (by decide +kernel)⟩
theorem lw_p35 : lw_okq (⟨"HeardSlotsModel", "gets", "(IIII)V"⟩, 18) := ⟨⟨by decide +kernel, by decide +kernel⟩, List.mem_of_getElem? (i := 680) (by decide +kernel), List.mem_of_getElem? (i := 902) (by decide +kernel), List.mem_of_getElem? (i := 903) (by decide +kernel)⟩
theorem lw_p36 : lw_okq (⟨"HeardSlotsModel", "takesOwn", "(IIII)Z"⟩, 18) := ⟨⟨by decide +kernel, by decide +kernel⟩, List.mem_of_getElem? (i := 680) (by decide +kernel), List.mem_of_getElem? (i := 909) (by decide +kernel), List.mem_of_getElem? (i := 910) (by decide +kernel)⟩
theorem lw_p37 : lw_okq (⟨"HeardSlotsModel", "sent", "(II)V"⟩, 18) := ⟨⟨by decide +kernel, by decide +kernel⟩, List.mem_of_getElem? (i := 680) (by decide +kernel), List.mem_of_getElem? (i := 913) (by decide +kernel), List.mem_of_getElem? (i := 914) (by decide +kernel)⟩
theorem lw_p38 : lw_okq (⟨"HeardSlotsModel", "overs", "(II)V"⟩, 18) := ⟨⟨by decide +kernel, by decide +kernel⟩, List.mem_of_getElem? (i := 680) (by decide +kernel), List.mem_of_getElem? (i := 917) (by decide +kernel), List.mem_of_getElem? (i := 918) (by decide +kernel)⟩
theorem lw_p39 : lw_okq (⟨"HeardSlotsModel", "overhears", "(IIII)V"⟩, 18) := ⟨⟨by decide +kernel, by decide +kernel⟩, List.mem_of_getElem? (i := 680) (by decide +kernel), List.mem_of_getElem? (i := 921) (by decide +kernel), List.mem_of_getElem? (i := 922) (by decide +kernel)⟩
theorem lw_p40 : lw_okq (⟨"HeardSlotsModel", "fails", "(II)V"⟩, 18) := ⟨⟨by decide +kernel, by decide +kernel⟩, List.mem_of_getElem? (i := 680) (by decide +kernel), List.mem_of_getElem? (i := 925) (by decide +kernel), List.mem_of_getElem? (i := 926) (by decide +kernel)⟩
def lw_privs_3 : List (MethodName × Nat) := [(⟨"HeardSlotsModel", "mayBegin", "(III)Z"⟩, 18), (⟨"HeardSlotsModel", "isFree", "(III)Z"⟩, 18), (⟨"HeardSlotsModel", "sends", "(III)V"⟩, 18), (⟨"HeardSlotsModel", "gets", "(IIII)V"⟩, 18), (⟨"HeardSlotsModel", "takesOwn", "(IIII)Z"⟩, 18), (⟨"HeardSlotsModel", "sent", "(II)V"⟩, 18), (⟨"HeardSlotsModel", "overs", "(II)V"⟩, 18), (⟨"HeardSlotsModel", "overhears", "(IIII)V"⟩, 18), (⟨"HeardSlotsModel", "fails", "(II)V"⟩, 18)]
theorem lw_r3 : ∀ q ∈ lw_privs_3, lw_okq q := List.forall_mem_cons.mpr ⟨lw_p32, List.forall_mem_cons.mpr ⟨lw_p33, List.forall_mem_cons.mpr ⟨lw_p34, List.forall_mem_cons.mpr ⟨lw_p35, List.forall_mem_cons.mpr ⟨lw_p36, List.forall_mem_cons.mpr ⟨lw_p37, List.forall_mem_cons.mpr ⟨lw_p38, List.forall_mem_cons.mpr ⟨lw_p39, List.forall_mem_cons.mpr ⟨lw_p40, fun _ h => absurd h List.not_mem_nil⟩⟩⟩⟩⟩⟩⟩⟩⟩
def lw_privs : List (MethodName × Nat) := lw_privs_1 ++ (lw_privs_2 ++ (lw_privs_3))
def lw_tbl : List Cond := k2_sels lw_privs ++ tables_1
theorem lw_privs_ok : ∀ q ∈ lw_privs, lw_okq q := by
  show ∀ q ∈ lw_privs_1 ++ (lw_privs_2 ++ (lw_privs_3)), lw_okq q
  exact List.forall_mem_append.mpr ⟨lw_r1, List.forall_mem_append.mpr ⟨lw_r2, lw_r3⟩⟩
end
section
def RX0 : String := "HeardSlots$LetterRow"
def TX0 : u_T := fun k => match k with
  | 0 => ("HeardSlots$LetterRow", "size", "I", false)
  | 1 => ("HeardSlots$LetterRow", "to", "[I", true)
  | _ => ("HeardSlots$LetterRow", "length", "[I", true)
def tyX0 : Nat → FieldType := fun k => match k with
  | 0 => .int
  | 1 => .array .int
  | _ => .array .int
abbrev wsX00 : List Cond := u_ws RX0 TX0 3
theorem nmX0 : ∀ a, a < 3 → ∀ b, b < 3 → a ≠ b → (TX0 a).2.1 ≠ (TX0 b).2.1 := by decide +kernel
theorem tyX0_ok : ∀ k, k < 3 → parseFieldDescriptor (TX0 k).2.2.1 = some (tyX0 k) := by decide +kernel
abbrev cX0_init : ByteArray := prog_2_method_1_code
def yX0_init : MethodName := ⟨RX0, "<init>", "()V"⟩
abbrev cX0_add : ByteArray := prog_2_method_2_code
def yX0_add : MethodName := ⟨RX0, "add", "(II)V"⟩
abbrev cX0_removeFirst : ByteArray := prog_2_method_3_code
def yX0_removeFirst : MethodName := ⟨RX0, "removeFirst", "()V"⟩
abbrev cX0_hasOneTo : ByteArray := prog_2_method_4_code
def yX0_hasOneTo : MethodName := ⟨RX0, "hasOneTo", "(I)Z"⟩
abbrev cX0_copyFrom : ByteArray := prog_2_method_5_code
def yX0_copyFrom : MethodName := ⟨RX0, "copyFrom", "(LHeardSlots$LetterRow;)V"⟩
def RX1 : String := "HeardSlots$Memory"
def TX1 : u_T := fun k => match k with
  | 0 => ("HeardSlots$Memory", "held", "I", false)
  | _ => ("HeardSlots$Memory", "facts", "[I", true)
def tyX1 : Nat → FieldType := fun k => match k with
  | 0 => .int
  | _ => .array .int
abbrev wsX10 : List Cond := u_ws RX1 TX1 2
theorem nmX1 : ∀ a, a < 2 → ∀ b, b < 2 → a ≠ b → (TX1 a).2.1 ≠ (TX1 b).2.1 := by decide +kernel
theorem tyX1_ok : ∀ k, k < 2 → parseFieldDescriptor (TX1 k).2.2.1 = some (tyX1 k) := by decide +kernel
abbrev cX1_init : ByteArray := prog_3_method_1_code
def yX1_init : MethodName := ⟨RX1, "<init>", "()V"⟩
abbrev cX1_add : ByteArray := prog_3_method_2_code
def yX1_add : MethodName := ⟨RX1, "add", "(IIII)V"⟩
abbrev cX1_read : ByteArray := prog_3_method_3_code
def yX1_read : MethodName := ⟨RX1, "read", "(II)I"⟩
abbrev cX1_copyFrom : ByteArray := prog_3_method_4_code
def yX1_copyFrom : MethodName := ⟨RX1, "copyFrom", "(LHeardSlots$Memory;)V"⟩
def RX2 : String := "HeardSlots$Net"
def TX2 : u_T := fun k => match k with
  | 0 => ("HeardSlots$Net", "stations", "I", false)
  | 1 => ("HeardSlots$Net", "least", "I", false)
  | 2 => ("HeardSlots$Net", "most", "I", false)
  | 3 => ("HeardSlots$Net", "askedFrom", "I", false)
  | 4 => ("HeardSlots$Net", "mostTries", "I", false)
  | 5 => ("HeardSlots$Net", "seed", "I", false)
  | 6 => ("HeardSlots$Net", "slots", "I", false)
  | 7 => ("HeardSlots$Net", "senders", "I", false)
  | 8 => ("HeardSlots$Net", "sentBy", "[I", true)
  | _ => ("HeardSlots$Net", "all", "[LHeardSlots$Station;", true)
def tyX2 : Nat → FieldType := fun k => match k with
  | 0 => .int
  | 1 => .int
  | 2 => .int
  | 3 => .int
  | 4 => .int
  | 5 => .int
  | 6 => .int
  | 7 => .int
  | 8 => .array .int
  | _ => .array (.object "HeardSlots$Station")
abbrev wsX20 : List Cond := u_ws RX2 TX2 10
theorem nmX2 : ∀ a, a < 10 → ∀ b, b < 10 → a ≠ b → (TX2 a).2.1 ≠ (TX2 b).2.1 := by decide +kernel
theorem tyX2_ok : ∀ k, k < 10 → parseFieldDescriptor (TX2 k).2.2.1 = some (tyX2 k) := by decide +kernel
abbrev cX2_init : ByteArray := prog_4_method_1_code
def yX2_init : MethodName := ⟨RX2, "<init>", "()V"⟩
abbrev cX2_clear : ByteArray := prog_4_method_2_code
def yX2_clear : MethodName := ⟨RX2, "clear", "()V"⟩
abbrev cX2_copyFrom : ByteArray := prog_4_method_3_code
def yX2_copyFrom : MethodName := ⟨RX2, "copyFrom", "(LHeardSlots$Net;)V"⟩
abbrev cX2_hears : ByteArray := prog_4_method_4_code
def yX2_hears : MethodName := ⟨RX2, "hears", "(II)Z"⟩
abbrev cX2_join : ByteArray := prog_4_method_5_code
def yX2_join : MethodName := ⟨RX2, "join", "(IIZ)V"⟩
abbrev cX2_nearness : ByteArray := prog_4_method_6_code
def yX2_nearness : MethodName := ⟨RX2, "nearness", "(II)I"⟩
abbrev cX2_pairsOf : ByteArray := prog_4_method_7_code
def yX2_pairsOf : MethodName := ⟨RX2, "pairsOf", "(I)I"⟩
abbrev cX2_isAsked : ByteArray := prog_4_method_8_code
def yX2_isAsked : MethodName := ⟨RX2, "isAsked", "(I)Z"⟩
abbrev cX2_totalOf : ByteArray := prog_4_method_9_code
def yX2_totalOf : MethodName := ⟨RX2, "totalOf", "(I)I"⟩
abbrev cX2_drawFirstWaits : ByteArray := prog_4_method_10_code
def yX2_drawFirstWaits : MethodName := ⟨RX2, "drawFirstWaits", "()V"⟩
abbrev cX2_drawWait : ByteArray := prog_4_method_11_code
def yX2_drawWait : MethodName := ⟨RX2, "drawWait", "(I)V"⟩
abbrev cX2_mayBegin : ByteArray := prog_4_method_12_code
def yX2_mayBegin : MethodName := ⟨RX2, "mayBegin", "(LHeardSlots$Station;)Z"⟩
abbrev cX2_kindToSend : ByteArray := prog_4_method_13_code
def yX2_kindToSend : MethodName := ⟨RX2, "kindToSend", "(LHeardSlots$Station;)I"⟩
abbrev cX2_passSlots : ByteArray := prog_4_method_14_code
def yX2_passSlots : MethodName := ⟨RX2, "passSlots", "(I)V"⟩
abbrev cX2_sendAll : ByteArray := prog_4_method_15_code
def yX2_sendAll : MethodName := ⟨RX2, "sendAll", "()I"⟩
abbrev cX2_listen : ByteArray := prog_4_method_16_code
def yX2_listen : MethodName := ⟨RX2, "listen", "(I)V"⟩
abbrev cX2_lowestOf : ByteArray := prog_4_method_17_code
def yX2_lowestOf : MethodName := ⟨RX2, "lowestOf", "(I)I"⟩
abbrev cX2_getFrom : ByteArray := prog_4_method_18_code
def yX2_getFrom : MethodName := ⟨RX2, "getFrom", "(II)Z"⟩
abbrev cX2_tallySent : ByteArray := prog_4_method_19_code
def yX2_tallySent : MethodName := ⟨RX2, "tallySent", "(LHeardSlots$Station;)V"⟩
def RX3 : String := "HeardSlots$Reader"
def TX3 : u_T := fun k => match k with
  | 0 => ("HeardSlots$Reader", "text", "[C", true)
  | 1 => ("HeardSlots$Reader", "into", "LHeardSlots$Net;", true)
  | 2 => ("HeardSlots$Reader", "numbers", "[I", true)
  | 3 => ("HeardSlots$Reader", "end", "I", false)
  | _ => ("HeardSlots$Reader", "place", "I", false)
def tyX3 : Nat → FieldType := fun k => match k with
  | 0 => .array .char
  | 1 => .object "HeardSlots$Net"
  | 2 => .array .int
  | 3 => .int
  | _ => .int
abbrev wsX30 : List Cond := u_ws RX3 TX3 5
theorem nmX3 : ∀ a, a < 5 → ∀ b, b < 5 → a ≠ b → (TX3 a).2.1 ≠ (TX3 b).2.1 := by decide +kernel
theorem tyX3_ok : ∀ k, k < 5 → parseFieldDescriptor (TX3 k).2.2.1 = some (tyX3 k) := by decide +kernel
abbrev cX3_init : ByteArray := prog_5_method_1_code
def yX3_init : MethodName := ⟨RX3, "<init>", "([CLHeardSlots$Net;)V"⟩
abbrev cX3_firstFault : ByteArray := prog_5_method_2_code
def yX3_firstFault : MethodName := ⟨RX3, "firstFault", "(I)I"⟩
abbrev cX3_readItem : ByteArray := prog_5_method_3_code
def yX3_readItem : MethodName := ⟨RX3, "readItem", "()Z"⟩
abbrev cX3_numbersBehind : ByteArray := prog_5_method_4_code
def yX3_numbersBehind : MethodName := ⟨RX3, "numbersBehind", "(C)I"⟩
abbrev cX3_readNumbers : ByteArray := prog_5_method_5_code
def yX3_readNumbers : MethodName := ⟨RX3, "readNumbers", "(I)Z"⟩
abbrev cX3_readNumber : ByteArray := prog_5_method_6_code
def yX3_readNumber : MethodName := ⟨RX3, "readNumber", "(I)Z"⟩
abbrev cX3_readSign : ByteArray := prog_5_method_7_code
def yX3_readSign : MethodName := ⟨RX3, "readSign", "(C)Z"⟩
abbrev cX3_setStations : ByteArray := prog_5_method_8_code
def yX3_setStations : MethodName := ⟨RX3, "setStations", "(I)Z"⟩
abbrev cX3_applyItem : ByteArray := prog_5_method_9_code
def yX3_applyItem : MethodName := ⟨RX3, "applyItem", "(CIII)Z"⟩
abbrev cX3_arePair : ByteArray := prog_5_method_10_code
def yX3_arePair : MethodName := ⟨RX3, "arePair", "(II)Z"⟩
abbrev cX3_applyHear : ByteArray := prog_5_method_11_code
def yX3_applyHear : MethodName := ⟨RX3, "applyHear", "(II)Z"⟩
abbrev cX3_applyLetter : ByteArray := prog_5_method_12_code
def yX3_applyLetter : MethodName := ⟨RX3, "applyLetter", "(III)Z"⟩
abbrev cX3_applyWindows : ByteArray := prog_5_method_13_code
def yX3_applyWindows : MethodName := ⟨RX3, "applyWindows", "(II)Z"⟩
abbrev cX3_applyTries : ByteArray := prog_5_method_14_code
def yX3_applyTries : MethodName := ⟨RX3, "applyTries", "(II)Z"⟩
abbrev cX3_applySeed : ByteArray := prog_5_method_15_code
def yX3_applySeed : MethodName := ⟨RX3, "applySeed", "(I)Z"⟩
def RX4 : String := "HeardSlots$Signal"
def TX4 : u_T := fun k => match k with
  | 0 => ("HeardSlots$Signal", "kind", "I", false)
  | 1 => ("HeardSlots$Signal", "to", "I", false)
  | 2 => ("HeardSlots$Signal", "length", "I", false)
  | _ => ("HeardSlots$Signal", "part", "I", false)
def tyX4 : Nat → FieldType := fun k => match k with
  | 0 => .int
  | 1 => .int
  | 2 => .int
  | _ => .int
abbrev wsX40 : List Cond := u_ws RX4 TX4 4
theorem nmX4 : ∀ a, a < 4 → ∀ b, b < 4 → a ≠ b → (TX4 a).2.1 ≠ (TX4 b).2.1 := by decide +kernel
theorem tyX4_ok : ∀ k, k < 4 → parseFieldDescriptor (TX4 k).2.2.1 = some (tyX4 k) := by decide +kernel
abbrev cX4_init : ByteArray := prog_6_method_1_code
def yX4_init : MethodName := ⟨RX4, "<init>", "()V"⟩
abbrev cX4_put : ByteArray := prog_6_method_2_code
def yX4_put : MethodName := ⟨RX4, "put", "(IIII)V"⟩
abbrev cX4_clear : ByteArray := prog_6_method_3_code
def yX4_clear : MethodName := ⟨RX4, "clear", "()V"⟩
abbrev cX4_copyFrom : ByteArray := prog_6_method_4_code
def yX4_copyFrom : MethodName := ⟨RX4, "copyFrom", "(LHeardSlots$Signal;)V"⟩
def RX5 : String := "HeardSlots$Station"
def TX5 : u_T := fun k => match k with
  | 0 => ("HeardSlots$Station", "hears", "I", false)
  | 1 => ("HeardSlots$Station", "window", "I", false)
  | 2 => ("HeardSlots$Station", "tries", "I", false)
  | 3 => ("HeardSlots$Station", "wait", "I", false)
  | 4 => ("HeardSlots$Station", "still", "I", false)
  | 5 => ("HeardSlots$Station", "clashes", "I", false)
  | 6 => ("HeardSlots$Station", "sent", "I", false)
  | 7 => ("HeardSlots$Station", "dropped", "I", false)
  | 8 => ("HeardSlots$Station", "drew", "I", false)
  | 9 => ("HeardSlots$Station", "awaits", "I", false)
  | 10 => ("HeardSlots$Station", "atLetter", "Z", false)
  | 11 => ("HeardSlots$Station", "partsSent", "I", false)
  | 12 => ("HeardSlots$Station", "partsFrom", "I", false)
  | 13 => ("HeardSlots$Station", "partsHeld", "I", false)
  | 14 => ("HeardSlots$Station", "partsSlot", "I", false)
  | 15 => ("HeardSlots$Station", "row", "LHeardSlots$LetterRow;", true)
  | 16 => ("HeardSlots$Station", "memory", "LHeardSlots$Memory;", true)
  | 17 => ("HeardSlots$Station", "owed", "LHeardSlots$Signal;", true)
  | _ => ("HeardSlots$Station", "out", "LHeardSlots$Signal;", true)
def tyX5 : Nat → FieldType := fun k => match k with
  | 0 => .int
  | 1 => .int
  | 2 => .int
  | 3 => .int
  | 4 => .int
  | 5 => .int
  | 6 => .int
  | 7 => .int
  | 8 => .int
  | 9 => .int
  | 10 => .boolean
  | 11 => .int
  | 12 => .int
  | 13 => .int
  | 14 => .int
  | 15 => .object "HeardSlots$LetterRow"
  | 16 => .object "HeardSlots$Memory"
  | 17 => .object "HeardSlots$Signal"
  | _ => .object "HeardSlots$Signal"
abbrev wsX50 : List Cond := u_ws RX5 TX5 19
theorem nmX5 : ∀ a, a < 19 → ∀ b, b < 19 → a ≠ b → (TX5 a).2.1 ≠ (TX5 b).2.1 := by decide +kernel
theorem tyX5_ok : ∀ k, k < 19 → parseFieldDescriptor (TX5 k).2.2.1 = some (tyX5 k) := by decide +kernel
abbrev cX5_init : ByteArray := prog_7_method_1_code
def yX5_init : MethodName := ⟨RX5, "<init>", "()V"⟩
abbrev cX5_clear : ByteArray := prog_7_method_2_code
def yX5_clear : MethodName := ⟨RX5, "clear", "()V"⟩
abbrev cX5_copyFrom : ByteArray := prog_7_method_3_code
def yX5_copyFrom : MethodName := ⟨RX5, "copyFrom", "(LHeardSlots$Station;)V"⟩
abbrev cX5_tallyOf : ByteArray := prog_7_method_4_code
def yX5_tallyOf : MethodName := ⟨RX5, "tallyOf", "(I)I"⟩
abbrev cX5_send : ByteArray := prog_7_method_5_code
def yX5_send : MethodName := ⟨RX5, "send", "(I)V"⟩
abbrev cX5_awaitAnswer : ByteArray := prog_7_method_6_code
def yX5_awaitAnswer : MethodName := ⟨RX5, "awaitAnswer", "()V"⟩
abbrev cX5_overhear : ByteArray := prog_7_method_7_code
def yX5_overhear : MethodName := ⟨RX5, "overhear", "(IILHeardSlots$Signal;)V"⟩
abbrev cX5_take : ByteArray := prog_7_method_8_code
def yX5_take : MethodName := ⟨RX5, "take", "(IILHeardSlots$Signal;)Z"⟩
abbrev cX5_takePart : ByteArray := prog_7_method_9_code
def yX5_takePart : MethodName := ⟨RX5, "takePart", "(IILHeardSlots$Signal;)V"⟩
abbrev cX5_closeLetter : ByteArray := prog_7_method_10_code
def yX5_closeLetter : MethodName := ⟨RX5, "closeLetter", "(I)V"⟩
abbrev cX5_failLetter : ByteArray := prog_7_method_11_code
def yX5_failLetter : MethodName := ⟨RX5, "failLetter", "(III)V"⟩
def RX6 : String := "HeardSlots"
def TX6 : u_T := fun k => match k with
  | 0 => ("HeardSlots", "text", "[C", true)
  | 1 => ("HeardSlots", "textLength", "I", false)
  | 2 => ("HeardSlots", "net", "LHeardSlots$Net;", true)
  | 3 => ("HeardSlots", "trial", "LHeardSlots$Net;", true)
  | 4 => ("HeardSlots", "reader", "LHeardSlots$Reader;", true)
  | 5 => ("HeardSlots", "past", "[LHeardSlots$Net;", true)
  | 6 => ("HeardSlots", "pastHeld", "I", false)
  | _ => ("HeardSlots", "pastNext", "I", false)
def tyX6 : Nat → FieldType := fun k => match k with
  | 0 => .array .char
  | 1 => .int
  | 2 => .object "HeardSlots$Net"
  | 3 => .object "HeardSlots$Net"
  | 4 => .object "HeardSlots$Reader"
  | 5 => .array (.object "HeardSlots$Net")
  | 6 => .int
  | _ => .int
abbrev wsX60 : List Cond := u_ws RX6 TX6 8
theorem nmX6 : ∀ a, a < 8 → ∀ b, b < 8 → a ≠ b → (TX6 a).2.1 ≠ (TX6 b).2.1 := by decide +kernel
theorem tyX6_ok : ∀ k, k < 8 → parseFieldDescriptor (TX6 k).2.2.1 = some (tyX6 k) := by decide +kernel
abbrev cX6_init : ByteArray := prog_1_method_1_code
def yX6_init : MethodName := ⟨RX6, "<init>", "()V"⟩
abbrev cX6_write : ByteArray := prog_1_method_2_code
def yX6_write : MethodName := ⟨RX6, "write", "(I)I"⟩
abbrev cX6_wipe : ByteArray := prog_1_method_3_code
def yX6_wipe : MethodName := ⟨RX6, "wipe", "()I"⟩
abbrev cX6_fault : ByteArray := prog_1_method_4_code
def yX6_fault : MethodName := ⟨RX6, "fault", "()I"⟩
abbrev cX6_lay : ByteArray := prog_1_method_5_code
def yX6_lay : MethodName := ⟨RX6, "lay", "()I"⟩
abbrev cX6_letter : ByteArray := prog_1_method_6_code
def yX6_letter : MethodName := ⟨RX6, "letter", "(III)I"⟩
abbrev cX6_hear : ByteArray := prog_1_method_7_code
def yX6_hear : MethodName := ⟨RX6, "hear", "(III)I"⟩
abbrev cX6_draws : ByteArray := prog_1_method_8_code
def yX6_draws : MethodName := ⟨RX6, "draws", "(I)I"⟩
abbrev cX6_slot : ByteArray := prog_1_method_9_code
def yX6_slot : MethodName := ⟨RX6, "slot", "(I)I"⟩
abbrev cX6_undo : ByteArray := prog_1_method_10_code
def yX6_undo : MethodName := ⟨RX6, "undo", "()I"⟩
abbrev cX6_station : ByteArray := prog_1_method_11_code
def yX6_station : MethodName := ⟨RX6, "station", "(II)I"⟩
abbrev cX6_letterOf : ByteArray := prog_1_method_12_code
def yX6_letterOf : MethodName := ⟨RX6, "letterOf", "(III)I"⟩
abbrev cX6_overheard : ByteArray := prog_1_method_13_code
def yX6_overheard : MethodName := ⟨RX6, "overheard", "(III)I"⟩
abbrev cX6_pair : ByteArray := prog_1_method_14_code
def yX6_pair : MethodName := ⟨RX6, "pair", "(II)I"⟩
abbrev cX6_draw : ByteArray := prog_1_method_15_code
def yX6_draw : MethodName := ⟨RX6, "draw", "(II)I"⟩
abbrev cX6_took : ByteArray := prog_1_method_16_code
def yX6_took : MethodName := ⟨RX6, "took", "(II)I"⟩
abbrev cX6_ahead : ByteArray := prog_1_method_17_code
def yX6_ahead : MethodName := ⟨RX6, "ahead", "(II)I"⟩
abbrev cX6_soon : ByteArray := prog_1_method_18_code
def yX6_soon : MethodName := ⟨RX6, "soon", "()I"⟩
abbrev cX6_count : ByteArray := prog_1_method_19_code
def yX6_count : MethodName := ⟨RX6, "count", "(I)I"⟩
abbrev cX6_isStation : ByteArray := prog_1_method_20_code
def yX6_isStation : MethodName := ⟨RX6, "isStation", "(I)Z"⟩
abbrev cX6_isPair : ByteArray := prog_1_method_21_code
def yX6_isPair : MethodName := ⟨RX6, "isPair", "(II)Z"⟩
abbrev cX6_takeText : ByteArray := prog_1_method_22_code
def yX6_takeText : MethodName := ⟨RX6, "takeText", "()Z"⟩
abbrev cX6_remember : ByteArray := prog_1_method_23_code
def yX6_remember : MethodName := ⟨RX6, "remember", "()V"⟩
abbrev cX6_sentInTrial : ByteArray := prog_1_method_24_code
def yX6_sentInTrial : MethodName := ⟨RX6, "sentInTrial", "(I)I"⟩
abbrev cX6_mostSentInTrial : ByteArray := prog_1_method_25_code
def yX6_mostSentInTrial : MethodName := ⟨RX6, "mostSentInTrial", "()I"⟩
abbrev cX6_leastSentInTrial : ByteArray := prog_1_method_26_code
def yX6_leastSentInTrial : MethodName := ⟨RX6, "leastSentInTrial", "()I"⟩
abbrev cX6_drawnNumber : ByteArray := prog_1_method_27_code
def yX6_drawnNumber : MethodName := ⟨RX6, "drawnNumber", "(III)I"⟩
def RX7 : String := "HeardSlotsModel"
def TX7 : u_T := fun k => match k with
  | 0 => ("HeardSlotsModel", "length", "I", false)
  | 1 => ("HeardSlotsModel", "text", "[I", true)
  | 2 => ("HeardSlotsModel", "stations", "I", false)
  | 3 => ("HeardSlotsModel", "least", "I", false)
  | 4 => ("HeardSlotsModel", "most", "I", false)
  | 5 => ("HeardSlotsModel", "asked", "I", false)
  | 6 => ("HeardSlotsModel", "tries", "I", false)
  | 7 => ("HeardSlotsModel", "row", "[I", true)
  | 8 => ("HeardSlotsModel", "was", "[I", true)
  | 9 => ("HeardSlotsModel", "changes", "I", false)
  | 10 => ("HeardSlotsModel", "readStations", "I", false)
  | 11 => ("HeardSlotsModel", "readRule", "[I", true)
  | 12 => ("HeardSlotsModel", "value", "I", false)
  | 13 => ("HeardSlotsModel", "ends", "I", false)
  | 14 => ("HeardSlotsModel", "what", "[I", true)
  | 15 => ("HeardSlotsModel", "whom", "[I", true)
  | 16 => ("HeardSlotsModel", "wide", "[I", true)
  | _ => ("HeardSlotsModel", "part", "[I", true)
def tyX7 : Nat → FieldType := fun k => match k with
  | 0 => .int
  | 1 => .array .int
  | 2 => .int
  | 3 => .int
  | 4 => .int
  | 5 => .int
  | 6 => .int
  | 7 => .array .int
  | 8 => .array .int
  | 9 => .int
  | 10 => .int
  | 11 => .array .int
  | 12 => .int
  | 13 => .int
  | 14 => .array .int
  | 15 => .array .int
  | 16 => .array .int
  | _ => .array .int
abbrev wsX70 : List Cond := u_ws RX7 TX7 18
theorem nmX7 : ∀ a, a < 18 → ∀ b, b < 18 → a ≠ b → (TX7 a).2.1 ≠ (TX7 b).2.1 := by decide +kernel
theorem tyX7_ok : ∀ k, k < 18 → parseFieldDescriptor (TX7 k).2.2.1 = some (tyX7 k) := by decide +kernel
abbrev cX7_init : ByteArray := prog_9_method_1_code
def yX7_init : MethodName := ⟨RX7, "<init>", "()V"⟩
abbrev cX7_isIn : ByteArray := prog_9_method_2_code
def yX7_isIn : MethodName := ⟨RX7, "isIn", "(III)Z"⟩
abbrev cX7_has : ByteArray := prog_9_method_3_code
def yX7_has : MethodName := ⟨RX7, "has", "(II)Z"⟩
abbrev cX7_bits : ByteArray := prog_9_method_4_code
def yX7_bits : MethodName := ⟨RX7, "bits", "(I)I"⟩
abbrev cX7_at : ByteArray := prog_9_method_5_code
def yX7_at : MethodName := ⟨RX7, "at", "(II)I"⟩
abbrev cX7_hears : ByteArray := prog_9_method_6_code
def yX7_hears : MethodName := ⟨RX7, "hears", "(III)V"⟩
abbrev cX7_adds : ByteArray := prog_9_method_7_code
def yX7_adds : MethodName := ⟨RX7, "adds", "(IIII)V"⟩
abbrev cX7_copies : ByteArray := prog_9_method_8_code
def yX7_copies : MethodName := ⟨RX7, "copies", "(II)V"⟩
abbrev cX7_clears : ByteArray := prog_9_method_9_code
def yX7_clears : MethodName := ⟨RX7, "clears", "()V"⟩
abbrev cX7_takes : ByteArray := prog_9_method_10_code
def yX7_takes : MethodName := ⟨RX7, "takes", "()V"⟩
abbrev cX7_letterAt : ByteArray := prog_9_method_11_code
def yX7_letterAt : MethodName := ⟨RX7, "letterAt", "(I)I"⟩
abbrev cX7_number : ByteArray := prog_9_method_12_code
def yX7_number : MethodName := ⟨RX7, "number", "(III)Z"⟩
abbrev cX7_more : ByteArray := prog_9_method_13_code
def yX7_more : MethodName := ⟨RX7, "more", "(II)Z"⟩
abbrev cX7_readsLetter : ByteArray := prog_9_method_14_code
def yX7_readsLetter : MethodName := ⟨RX7, "readsLetter", "(I)Z"⟩
abbrev cX7_readsPair : ByteArray := prog_9_method_15_code
def yX7_readsPair : MethodName := ⟨RX7, "readsPair", "(I)Z"⟩
abbrev cX7_readsRules : ByteArray := prog_9_method_16_code
def yX7_readsRules : MethodName := ⟨RX7, "readsRules", "(III)Z"⟩
abbrev cX7_readsItem : ByteArray := prog_9_method_17_code
def yX7_readsItem : MethodName := ⟨RX7, "readsItem", "(IIZ)Z"⟩
abbrev cX7_reads : ByteArray := prog_9_method_18_code
def yX7_reads : MethodName := ⟨RX7, "reads", "()I"⟩
abbrev cX7_write : ByteArray := prog_9_method_19_code
def yX7_write : MethodName := ⟨RX7, "write", "(I)I"⟩
abbrev cX7_wipe : ByteArray := prog_9_method_20_code
def yX7_wipe : MethodName := ⟨RX7, "wipe", "()I"⟩
abbrev cX7_fault : ByteArray := prog_9_method_21_code
def yX7_fault : MethodName := ⟨RX7, "fault", "()I"⟩
abbrev cX7_lay : ByteArray := prog_9_method_22_code
def yX7_lay : MethodName := ⟨RX7, "lay", "()I"⟩
abbrev cX7_drawn : ByteArray := prog_9_method_23_code
def yX7_drawn : MethodName := ⟨RX7, "drawn", "(III)I"⟩
abbrev cX7_waits : ByteArray := prog_9_method_24_code
def yX7_waits : MethodName := ⟨RX7, "waits", "(II)V"⟩
abbrev cX7_comes : ByteArray := prog_9_method_25_code
def yX7_comes : MethodName := ⟨RX7, "comes", "(II)V"⟩
abbrev cX7_overs : ByteArray := prog_9_method_26_code
def yX7_overs : MethodName := ⟨RX7, "overs", "(II)V"⟩
abbrev cX7_fails : ByteArray := prog_9_method_27_code
def yX7_fails : MethodName := ⟨RX7, "fails", "(II)V"⟩
abbrev cX7_sent : ByteArray := prog_9_method_28_code
def yX7_sent : MethodName := ⟨RX7, "sent", "(II)V"⟩
abbrev cX7_isFree : ByteArray := prog_9_method_29_code
def yX7_isFree : MethodName := ⟨RX7, "isFree", "(III)Z"⟩
abbrev cX7_mayBegin : ByteArray := prog_9_method_30_code
def yX7_mayBegin : MethodName := ⟨RX7, "mayBegin", "(III)Z"⟩
abbrev cX7_says : ByteArray := prog_9_method_31_code
def yX7_says : MethodName := ⟨RX7, "says", "(III)V"⟩
abbrev cX7_sends : ByteArray := prog_9_method_32_code
def yX7_sends : MethodName := ⟨RX7, "sends", "(III)V"⟩
abbrev cX7_takesOwn : ByteArray := prog_9_method_33_code
def yX7_takesOwn : MethodName := ⟨RX7, "takesOwn", "(IIII)Z"⟩
abbrev cX7_overhears : ByteArray := prog_9_method_34_code
def yX7_overhears : MethodName := ⟨RX7, "overhears", "(IIII)V"⟩
abbrev cX7_gets : ByteArray := prog_9_method_35_code
def yX7_gets : MethodName := ⟨RX7, "gets", "(IIII)V"⟩
abbrev cX7_goes : ByteArray := prog_9_method_36_code
def yX7_goes : MethodName := ⟨RX7, "goes", "(I)V"⟩
abbrev cX7_all : ByteArray := prog_9_method_37_code
def yX7_all : MethodName := ⟨RX7, "all", "(II)I"⟩
abbrev cX7_keeps : ByteArray := prog_9_method_38_code
def yX7_keeps : MethodName := ⟨RX7, "keeps", "()V"⟩
abbrev cX7_undo : ByteArray := prog_9_method_39_code
def yX7_undo : MethodName := ⟨RX7, "undo", "()I"⟩
abbrev cX7_isStation : ByteArray := prog_9_method_40_code
def yX7_isStation : MethodName := ⟨RX7, "isStation", "(I)Z"⟩
abbrev cX7_areTwo : ByteArray := prog_9_method_41_code
def yX7_areTwo : MethodName := ⟨RX7, "areTwo", "(II)Z"⟩
abbrev cX7_letter : ByteArray := prog_9_method_42_code
def yX7_letter : MethodName := ⟨RX7, "letter", "(III)I"⟩
abbrev cX7_hasFor : ByteArray := prog_9_method_43_code
def yX7_hasFor : MethodName := ⟨RX7, "hasFor", "(II)Z"⟩
abbrev cX7_pairs : ByteArray := prog_9_method_44_code
def yX7_pairs : MethodName := ⟨RX7, "pairs", "(I)I"⟩
abbrev cX7_pairOf : ByteArray := prog_9_method_45_code
def yX7_pairOf : MethodName := ⟨RX7, "pairOf", "(II)I"⟩
abbrev cX7_hear : ByteArray := prog_9_method_46_code
def yX7_hear : MethodName := ⟨RX7, "hear", "(III)I"⟩
abbrev cX7_draws : ByteArray := prog_9_method_47_code
def yX7_draws : MethodName := ⟨RX7, "draws", "(I)I"⟩
abbrev cX7_slot : ByteArray := prog_9_method_48_code
def yX7_slot : MethodName := ⟨RX7, "slot", "(I)I"⟩
abbrev cX7_station : ByteArray := prog_9_method_49_code
def yX7_station : MethodName := ⟨RX7, "station", "(II)I"⟩
abbrev cX7_letterOf : ByteArray := prog_9_method_50_code
def yX7_letterOf : MethodName := ⟨RX7, "letterOf", "(III)I"⟩
abbrev cX7_overheard : ByteArray := prog_9_method_51_code
def yX7_overheard : MethodName := ⟨RX7, "overheard", "(III)I"⟩
abbrev cX7_pair : ByteArray := prog_9_method_52_code
def yX7_pair : MethodName := ⟨RX7, "pair", "(II)I"⟩
abbrev cX7_draw : ByteArray := prog_9_method_53_code
def yX7_draw : MethodName := ⟨RX7, "draw", "(II)I"⟩
abbrev cX7_took : ByteArray := prog_9_method_54_code
def yX7_took : MethodName := ⟨RX7, "took", "(II)I"⟩
abbrev cX7_ahead : ByteArray := prog_9_method_55_code
def yX7_ahead : MethodName := ⟨RX7, "ahead", "(II)I"⟩
abbrev cX7_soon : ByteArray := prog_9_method_56_code
def yX7_soon : MethodName := ⟨RX7, "soon", "()I"⟩
abbrev cX7_count : ByteArray := prog_9_method_57_code
def yX7_count : MethodName := ⟨RX7, "count", "(I)I"⟩
def RJ6 : String := "java/lang/Integer"
abbrev cJ6_bitCount_0f7a4 : ByteArray := prog_10_method_49_code
def yJ6_bitCount_0f7a4 : MethodName := ⟨RJ6, "bitCount", "(I)I"⟩
def RJ9 : String := "java/lang/Math"
abbrev cJ9_max_7cf53 : ByteArray := prog_11_method_65_code
def yJ9_max_7cf53 : MethodName := ⟨RJ9, "max", "(II)I"⟩
abbrev cJ9_min_7cf53 : ByteArray := prog_11_method_69_code
def yJ9_min_7cf53 : MethodName := ⟨RJ9, "min", "(II)I"⟩
def RJ0 : String := "java/lang/String"
abbrev cJ0_length_8abf5 : ByteArray := prog_12_method_54_code
def yJ0_length_8abf5 : MethodName := ⟨RJ0, "length", "()I"⟩
abbrev cJ0_charAt_5068e : ByteArray := prog_12_method_56_code
def yJ0_charAt_5068e : MethodName := ⟨RJ0, "charAt", "(I)C"⟩
abbrev cJ0_coder_7d493 : ByteArray := prog_12_method_152_code
def yJ0_coder_7d493 : MethodName := ⟨RJ0, "coder", "()B"⟩
abbrev cJ0_isLatin1_aae02 : ByteArray := prog_12_method_154_code
def yJ0_isLatin1_aae02 : MethodName := ⟨RJ0, "isLatin1", "()Z"⟩
abbrev cJ0_checkIndex_df160 : ByteArray := prog_12_method_155_code
def yJ0_checkIndex_df160 : MethodName := ⟨RJ0, "checkIndex", "(II)V"⟩
def RJ1 : String := "java/lang/StringLatin1"
abbrev cJ1_charAt_3b067 : ByteArray := prog_13_method_2_code
def yJ1_charAt_3b067 : MethodName := ⟨RJ1, "charAt", "([BI)C"⟩
def RJ2 : String := "java/lang/StringUTF16"
abbrev cJ2_getChar_3b067 : ByteArray := prog_14_method_5_code
def yJ2_getChar_3b067 : MethodName := ⟨RJ2, "getChar", "([BI)C"⟩
abbrev cJ2_length_9d52b : ByteArray := prog_14_method_6_code
def yJ2_length_9d52b : MethodName := ⟨RJ2, "length", "([B)I"⟩
abbrev cJ2_charAt_3b067 : ByteArray := prog_14_method_83_code
def yJ2_charAt_3b067 : MethodName := ⟨RJ2, "charAt", "([BI)C"⟩
abbrev cJ2_checkIndex_2214a : ByteArray := prog_14_method_91_code
def yJ2_checkIndex_2214a : MethodName := ⟨RJ2, "checkIndex", "(I[B)V"⟩
def RJ10 : String := "java/lang/System"
def RJ3 : String := "jdk/internal/util/Preconditions"
abbrev cJ3_checkIndex_8e157 : ByteArray := prog_16_method_11_code
def yJ3_checkIndex_8e157 : MethodName := ⟨RJ3, "checkIndex", "(IILjava/util/function/BiFunction;)I"⟩
def RL : String := "HeardSlotsLaw"
abbrev cL_law : ByteArray := code
def yL_law : MethodName := ⟨RL, "law", "([I)Z"⟩
abbrev vwCl : List vw_C := [(RX0, TX0, 3), (RX1, TX1, 2), (RX2, TX2, 10), (RX3, TX3, 5), (RX4, TX4, 4), (RX5, TX5, 19), (RX6, TX6, 8), (RX7, TX7, 18)]
end
section
theorem dX0_init_0 : decode cX0_init 0 = .ok (.aload_n 0, 1) := by decide +kernel
theorem dX0_init_1 : decode cX0_init 1 = .ok (.invokespecial 3, 3) := by decide +kernel
theorem dX0_init_4 : decode cX0_init 4 = .ok (.aload_n 0, 1) := by decide +kernel
theorem dX0_init_5 : decode cX0_init 5 = .ok (.bipush 6, 2) := by decide +kernel
theorem dX0_init_7 : decode cX0_init 7 = .ok (.newarray .int, 2) := by decide +kernel
theorem dX0_init_9 : decode cX0_init 9 = .ok (.putfield 9, 3) := by decide +kernel
theorem dX0_init_12 : decode cX0_init 12 = .ok (.aload_n 0, 1) := by decide +kernel
theorem dX0_init_13 : decode cX0_init 13 = .ok (.bipush 6, 2) := by decide +kernel
theorem dX0_init_15 : decode cX0_init 15 = .ok (.newarray .int, 2) := by decide +kernel
theorem dX0_init_17 : decode cX0_init 17 = .ok (.putfield 15, 3) := by decide +kernel
theorem dX0_init_20 : decode cX0_init 20 = .ok (.return_, 1) := by decide +kernel
theorem dX0_add_0 : decode cX0_add 0 = .ok (.aload_n 0, 1) := by decide +kernel
theorem dX0_add_1 : decode cX0_add 1 = .ok (.getfield 18, 3) := by decide +kernel
theorem dX0_add_4 : decode cX0_add 4 = .ok (.bipush 6, 2) := by decide +kernel
theorem dX0_add_6 : decode cX0_add 6 = .ok (.if_icmp .ge 33, 3) := by decide +kernel
theorem dX0_add_9 : decode cX0_add 9 = .ok (.aload_n 0, 1) := by decide +kernel
theorem dX0_add_10 : decode cX0_add 10 = .ok (.getfield 9, 3) := by decide +kernel
theorem dX0_add_13 : decode cX0_add 13 = .ok (.aload_n 0, 1) := by decide +kernel
theorem dX0_add_14 : decode cX0_add 14 = .ok (.getfield 18, 3) := by decide +kernel
theorem dX0_add_17 : decode cX0_add 17 = .ok (.iload_n 1, 1) := by decide +kernel
theorem dX0_add_18 : decode cX0_add 18 = .ok (.iastore, 1) := by decide +kernel
theorem dX0_add_19 : decode cX0_add 19 = .ok (.aload_n 0, 1) := by decide +kernel
theorem dX0_add_20 : decode cX0_add 20 = .ok (.getfield 15, 3) := by decide +kernel
theorem dX0_add_23 : decode cX0_add 23 = .ok (.aload_n 0, 1) := by decide +kernel
theorem dX0_add_24 : decode cX0_add 24 = .ok (.getfield 18, 3) := by decide +kernel
theorem dX0_add_27 : decode cX0_add 27 = .ok (.iload_n 2, 1) := by decide +kernel
theorem dX0_add_28 : decode cX0_add 28 = .ok (.iastore, 1) := by decide +kernel
theorem dX0_add_29 : decode cX0_add 29 = .ok (.aload_n 0, 1) := by decide +kernel
theorem dX0_add_30 : decode cX0_add 30 = .ok (.dup, 1) := by decide +kernel
theorem dX0_add_31 : decode cX0_add 31 = .ok (.getfield 18, 3) := by decide +kernel
theorem dX0_add_34 : decode cX0_add 34 = .ok (.iconst 1, 1) := by decide +kernel
theorem dX0_add_35 : decode cX0_add 35 = .ok (.iadd, 1) := by decide +kernel
theorem dX0_add_36 : decode cX0_add 36 = .ok (.putfield 18, 3) := by decide +kernel
theorem dX0_add_39 : decode cX0_add 39 = .ok (.return_, 1) := by decide +kernel
theorem dX0_removeFirst_0 : decode cX0_removeFirst 0 = .ok (.aload_n 0, 1) := by decide +kernel
theorem dX0_removeFirst_1 : decode cX0_removeFirst 1 = .ok (.getfield 18, 3) := by decide +kernel
theorem dX0_removeFirst_4 : decode cX0_removeFirst 4 = .ok (.ifCond .le 47, 3) := by decide +kernel
theorem dX0_removeFirst_7 : decode cX0_removeFirst 7 = .ok (.aload_n 0, 1) := by decide +kernel
theorem dX0_removeFirst_8 : decode cX0_removeFirst 8 = .ok (.dup, 1) := by decide +kernel
theorem dX0_removeFirst_9 : decode cX0_removeFirst 9 = .ok (.getfield 18, 3) := by decide +kernel
theorem dX0_removeFirst_12 : decode cX0_removeFirst 12 = .ok (.iconst 1, 1) := by decide +kernel
theorem dX0_removeFirst_13 : decode cX0_removeFirst 13 = .ok (.isub, 1) := by decide +kernel
theorem dX0_removeFirst_14 : decode cX0_removeFirst 14 = .ok (.putfield 18, 3) := by decide +kernel
theorem dX0_removeFirst_17 : decode cX0_removeFirst 17 = .ok (.aload_n 0, 1) := by decide +kernel
theorem dX0_removeFirst_18 : decode cX0_removeFirst 18 = .ok (.getfield 9, 3) := by decide +kernel
theorem dX0_removeFirst_21 : decode cX0_removeFirst 21 = .ok (.iconst 1, 1) := by decide +kernel
theorem dX0_removeFirst_22 : decode cX0_removeFirst 22 = .ok (.aload_n 0, 1) := by decide +kernel
theorem dX0_removeFirst_23 : decode cX0_removeFirst 23 = .ok (.getfield 9, 3) := by decide +kernel
theorem dX0_removeFirst_26 : decode cX0_removeFirst 26 = .ok (.iconst 0, 1) := by decide +kernel
theorem dX0_removeFirst_27 : decode cX0_removeFirst 27 = .ok (.aload_n 0, 1) := by decide +kernel
theorem dX0_removeFirst_28 : decode cX0_removeFirst 28 = .ok (.getfield 18, 3) := by decide +kernel
theorem dX0_removeFirst_31 : decode cX0_removeFirst 31 = .ok (.invokestatic 22, 3) := by decide +kernel
theorem dX0_removeFirst_34 : decode cX0_removeFirst 34 = .ok (.aload_n 0, 1) := by decide +kernel
theorem dX0_removeFirst_35 : decode cX0_removeFirst 35 = .ok (.getfield 15, 3) := by decide +kernel
theorem dX0_removeFirst_38 : decode cX0_removeFirst 38 = .ok (.iconst 1, 1) := by decide +kernel
theorem dX0_removeFirst_39 : decode cX0_removeFirst 39 = .ok (.aload_n 0, 1) := by decide +kernel
theorem dX0_removeFirst_40 : decode cX0_removeFirst 40 = .ok (.getfield 15, 3) := by decide +kernel
theorem dX0_removeFirst_43 : decode cX0_removeFirst 43 = .ok (.iconst 0, 1) := by decide +kernel
theorem dX0_removeFirst_44 : decode cX0_removeFirst 44 = .ok (.aload_n 0, 1) := by decide +kernel
theorem dX0_removeFirst_45 : decode cX0_removeFirst 45 = .ok (.getfield 18, 3) := by decide +kernel
theorem dX0_removeFirst_48 : decode cX0_removeFirst 48 = .ok (.invokestatic 22, 3) := by decide +kernel
theorem dX0_removeFirst_51 : decode cX0_removeFirst 51 = .ok (.return_, 1) := by decide +kernel
theorem dX0_hasOneTo_0 : decode cX0_hasOneTo 0 = .ok (.iconst 0, 1) := by decide +kernel
theorem dX0_hasOneTo_1 : decode cX0_hasOneTo 1 = .ok (.istore_n 2, 1) := by decide +kernel
theorem dX0_hasOneTo_2 : decode cX0_hasOneTo 2 = .ok (.iload_n 2, 1) := by decide +kernel
theorem dX0_hasOneTo_3 : decode cX0_hasOneTo 3 = .ok (.aload_n 0, 1) := by decide +kernel
theorem dX0_hasOneTo_4 : decode cX0_hasOneTo 4 = .ok (.getfield 18, 3) := by decide +kernel
theorem dX0_hasOneTo_7 : decode cX0_hasOneTo 7 = .ok (.if_icmp .ge 21, 3) := by decide +kernel
theorem dX0_hasOneTo_10 : decode cX0_hasOneTo 10 = .ok (.aload_n 0, 1) := by decide +kernel
theorem dX0_hasOneTo_11 : decode cX0_hasOneTo 11 = .ok (.getfield 9, 3) := by decide +kernel
theorem dX0_hasOneTo_14 : decode cX0_hasOneTo 14 = .ok (.iload_n 2, 1) := by decide +kernel
theorem dX0_hasOneTo_15 : decode cX0_hasOneTo 15 = .ok (.iaload, 1) := by decide +kernel
theorem dX0_hasOneTo_16 : decode cX0_hasOneTo 16 = .ok (.iload_n 1, 1) := by decide +kernel
theorem dX0_hasOneTo_17 : decode cX0_hasOneTo 17 = .ok (.if_icmp .ne 5, 3) := by decide +kernel
theorem dX0_hasOneTo_20 : decode cX0_hasOneTo 20 = .ok (.iconst 1, 1) := by decide +kernel
theorem dX0_hasOneTo_21 : decode cX0_hasOneTo 21 = .ok (.ireturn, 1) := by decide +kernel
theorem dX0_hasOneTo_22 : decode cX0_hasOneTo 22 = .ok (.iinc 2 1, 3) := by decide +kernel
theorem dX0_hasOneTo_25 : decode cX0_hasOneTo 25 = .ok (.goto (-23), 3) := by decide +kernel
theorem dX0_hasOneTo_28 : decode cX0_hasOneTo 28 = .ok (.iconst 0, 1) := by decide +kernel
theorem dX0_hasOneTo_29 : decode cX0_hasOneTo 29 = .ok (.ireturn, 1) := by decide +kernel
theorem dX0_copyFrom_0 : decode cX0_copyFrom 0 = .ok (.aload_n 0, 1) := by decide +kernel
theorem dX0_copyFrom_1 : decode cX0_copyFrom 1 = .ok (.aload_n 1, 1) := by decide +kernel
theorem dX0_copyFrom_2 : decode cX0_copyFrom 2 = .ok (.getfield 18, 3) := by decide +kernel
theorem dX0_copyFrom_5 : decode cX0_copyFrom 5 = .ok (.putfield 18, 3) := by decide +kernel
theorem dX0_copyFrom_8 : decode cX0_copyFrom 8 = .ok (.aload_n 1, 1) := by decide +kernel
theorem dX0_copyFrom_9 : decode cX0_copyFrom 9 = .ok (.getfield 9, 3) := by decide +kernel
theorem dX0_copyFrom_12 : decode cX0_copyFrom 12 = .ok (.iconst 0, 1) := by decide +kernel
theorem dX0_copyFrom_13 : decode cX0_copyFrom 13 = .ok (.aload_n 0, 1) := by decide +kernel
theorem dX0_copyFrom_14 : decode cX0_copyFrom 14 = .ok (.getfield 9, 3) := by decide +kernel
theorem dX0_copyFrom_17 : decode cX0_copyFrom 17 = .ok (.iconst 0, 1) := by decide +kernel
theorem dX0_copyFrom_18 : decode cX0_copyFrom 18 = .ok (.bipush 6, 2) := by decide +kernel
theorem dX0_copyFrom_20 : decode cX0_copyFrom 20 = .ok (.invokestatic 22, 3) := by decide +kernel
theorem dX0_copyFrom_23 : decode cX0_copyFrom 23 = .ok (.aload_n 1, 1) := by decide +kernel
theorem dX0_copyFrom_24 : decode cX0_copyFrom 24 = .ok (.getfield 15, 3) := by decide +kernel
theorem dX0_copyFrom_27 : decode cX0_copyFrom 27 = .ok (.iconst 0, 1) := by decide +kernel
theorem dX0_copyFrom_28 : decode cX0_copyFrom 28 = .ok (.aload_n 0, 1) := by decide +kernel
theorem dX0_copyFrom_29 : decode cX0_copyFrom 29 = .ok (.getfield 15, 3) := by decide +kernel
theorem dX0_copyFrom_32 : decode cX0_copyFrom 32 = .ok (.iconst 0, 1) := by decide +kernel
theorem dX0_copyFrom_33 : decode cX0_copyFrom 33 = .ok (.bipush 6, 2) := by decide +kernel
theorem dX0_copyFrom_35 : decode cX0_copyFrom 35 = .ok (.invokestatic 22, 3) := by decide +kernel
theorem dX0_copyFrom_38 : decode cX0_copyFrom 38 = .ok (.return_, 1) := by decide +kernel
theorem dX1_init_0 : decode cX1_init 0 = .ok (.aload_n 0, 1) := by decide +kernel
theorem dX1_init_1 : decode cX1_init 1 = .ok (.invokespecial 3, 3) := by decide +kernel
theorem dX1_init_4 : decode cX1_init 4 = .ok (.aload_n 0, 1) := by decide +kernel
theorem dX1_init_5 : decode cX1_init 5 = .ok (.bipush 24, 2) := by decide +kernel
theorem dX1_init_7 : decode cX1_init 7 = .ok (.newarray .int, 2) := by decide +kernel
theorem dX1_init_9 : decode cX1_init 9 = .ok (.putfield 11, 3) := by decide +kernel
theorem dX1_init_12 : decode cX1_init 12 = .ok (.return_, 1) := by decide +kernel
theorem dX1_add_0 : decode cX1_add 0 = .ok (.aload_n 0, 1) := by decide +kernel
theorem dX1_add_1 : decode cX1_add 1 = .ok (.getfield 15, 3) := by decide +kernel
theorem dX1_add_4 : decode cX1_add 4 = .ok (.bipush 6, 2) := by decide +kernel
theorem dX1_add_6 : decode cX1_add 6 = .ok (.if_icmp .ne 32, 3) := by decide +kernel
theorem dX1_add_9 : decode cX1_add 9 = .ok (.aload_n 0, 1) := by decide +kernel
theorem dX1_add_10 : decode cX1_add 10 = .ok (.dup, 1) := by decide +kernel
theorem dX1_add_11 : decode cX1_add 11 = .ok (.getfield 15, 3) := by decide +kernel
theorem dX1_add_14 : decode cX1_add 14 = .ok (.iconst 1, 1) := by decide +kernel
theorem dX1_add_15 : decode cX1_add 15 = .ok (.isub, 1) := by decide +kernel
theorem dX1_add_16 : decode cX1_add 16 = .ok (.putfield 15, 3) := by decide +kernel
theorem dX1_add_19 : decode cX1_add 19 = .ok (.aload_n 0, 1) := by decide +kernel
theorem dX1_add_20 : decode cX1_add 20 = .ok (.getfield 11, 3) := by decide +kernel
theorem dX1_add_23 : decode cX1_add 23 = .ok (.iconst 4, 1) := by decide +kernel
theorem dX1_add_24 : decode cX1_add 24 = .ok (.aload_n 0, 1) := by decide +kernel
theorem dX1_add_25 : decode cX1_add 25 = .ok (.getfield 11, 3) := by decide +kernel
theorem dX1_add_28 : decode cX1_add 28 = .ok (.iconst 0, 1) := by decide +kernel
theorem dX1_add_29 : decode cX1_add 29 = .ok (.aload_n 0, 1) := by decide +kernel
theorem dX1_add_30 : decode cX1_add 30 = .ok (.getfield 15, 3) := by decide +kernel
theorem dX1_add_33 : decode cX1_add 33 = .ok (.iconst 4, 1) := by decide +kernel
theorem dX1_add_34 : decode cX1_add 34 = .ok (.imul, 1) := by decide +kernel
theorem dX1_add_35 : decode cX1_add 35 = .ok (.invokestatic 19, 3) := by decide +kernel
theorem dX1_add_38 : decode cX1_add 38 = .ok (.aload_n 0, 1) := by decide +kernel
theorem dX1_add_39 : decode cX1_add 39 = .ok (.getfield 15, 3) := by decide +kernel
theorem dX1_add_42 : decode cX1_add 42 = .ok (.iconst 4, 1) := by decide +kernel
theorem dX1_add_43 : decode cX1_add 43 = .ok (.imul, 1) := by decide +kernel
theorem dX1_add_44 : decode cX1_add 44 = .ok (.istore 5, 2) := by decide +kernel
theorem dX1_add_46 : decode cX1_add 46 = .ok (.aload_n 0, 1) := by decide +kernel
theorem dX1_add_47 : decode cX1_add 47 = .ok (.getfield 11, 3) := by decide +kernel
theorem dX1_add_50 : decode cX1_add 50 = .ok (.iload 5, 2) := by decide +kernel
theorem dX1_add_52 : decode cX1_add 52 = .ok (.iload_n 1, 1) := by decide +kernel
theorem dX1_add_53 : decode cX1_add 53 = .ok (.iastore, 1) := by decide +kernel
theorem dX1_add_54 : decode cX1_add 54 = .ok (.aload_n 0, 1) := by decide +kernel
theorem dX1_add_55 : decode cX1_add 55 = .ok (.getfield 11, 3) := by decide +kernel
theorem dX1_add_58 : decode cX1_add 58 = .ok (.iload 5, 2) := by decide +kernel
theorem dX1_add_60 : decode cX1_add 60 = .ok (.iconst 1, 1) := by decide +kernel
theorem dX1_add_61 : decode cX1_add 61 = .ok (.iadd, 1) := by decide +kernel
theorem dX1_add_62 : decode cX1_add 62 = .ok (.iload_n 2, 1) := by decide +kernel
theorem dX1_add_63 : decode cX1_add 63 = .ok (.iastore, 1) := by decide +kernel
theorem dX1_add_64 : decode cX1_add 64 = .ok (.aload_n 0, 1) := by decide +kernel
theorem dX1_add_65 : decode cX1_add 65 = .ok (.getfield 11, 3) := by decide +kernel
theorem dX1_add_68 : decode cX1_add 68 = .ok (.iload 5, 2) := by decide +kernel
theorem dX1_add_70 : decode cX1_add 70 = .ok (.iconst 2, 1) := by decide +kernel
theorem dX1_add_71 : decode cX1_add 71 = .ok (.iadd, 1) := by decide +kernel
theorem dX1_add_72 : decode cX1_add 72 = .ok (.iload_n 3, 1) := by decide +kernel
theorem dX1_add_73 : decode cX1_add 73 = .ok (.iastore, 1) := by decide +kernel
theorem dX1_add_74 : decode cX1_add 74 = .ok (.aload_n 0, 1) := by decide +kernel
theorem dX1_add_75 : decode cX1_add 75 = .ok (.getfield 11, 3) := by decide +kernel
theorem dX1_add_78 : decode cX1_add 78 = .ok (.iload 5, 2) := by decide +kernel
theorem dX1_add_80 : decode cX1_add 80 = .ok (.iconst 3, 1) := by decide +kernel
theorem dX1_add_81 : decode cX1_add 81 = .ok (.iadd, 1) := by decide +kernel
theorem dX1_add_82 : decode cX1_add 82 = .ok (.iload 4, 2) := by decide +kernel
theorem dX1_add_84 : decode cX1_add 84 = .ok (.iastore, 1) := by decide +kernel
theorem dX1_add_85 : decode cX1_add 85 = .ok (.aload_n 0, 1) := by decide +kernel
theorem dX1_add_86 : decode cX1_add 86 = .ok (.dup, 1) := by decide +kernel
theorem dX1_add_87 : decode cX1_add 87 = .ok (.getfield 15, 3) := by decide +kernel
theorem dX1_add_90 : decode cX1_add 90 = .ok (.iconst 1, 1) := by decide +kernel
theorem dX1_add_91 : decode cX1_add 91 = .ok (.iadd, 1) := by decide +kernel
theorem dX1_add_92 : decode cX1_add 92 = .ok (.putfield 15, 3) := by decide +kernel
theorem dX1_add_95 : decode cX1_add 95 = .ok (.return_, 1) := by decide +kernel
theorem dX1_read_0 : decode cX1_read 0 = .ok (.iload_n 1, 1) := by decide +kernel
theorem dX1_read_1 : decode cX1_read 1 = .ok (.ifCond .lt 20, 3) := by decide +kernel
theorem dX1_read_4 : decode cX1_read 4 = .ok (.iload_n 1, 1) := by decide +kernel
theorem dX1_read_5 : decode cX1_read 5 = .ok (.aload_n 0, 1) := by decide +kernel
theorem dX1_read_6 : decode cX1_read 6 = .ok (.getfield 15, 3) := by decide +kernel
theorem dX1_read_9 : decode cX1_read 9 = .ok (.if_icmp .ge 12, 3) := by decide +kernel
theorem dX1_read_12 : decode cX1_read 12 = .ok (.iload_n 2, 1) := by decide +kernel
theorem dX1_read_13 : decode cX1_read 13 = .ok (.ifCond .lt 8, 3) := by decide +kernel
theorem dX1_read_16 : decode cX1_read 16 = .ok (.iload_n 2, 1) := by decide +kernel
theorem dX1_read_17 : decode cX1_read 17 = .ok (.iconst 4, 1) := by decide +kernel
theorem dX1_read_18 : decode cX1_read 18 = .ok (.if_icmp .lt 6, 3) := by decide +kernel
theorem dX1_read_21 : decode cX1_read 21 = .ok (.bipush (-4), 2) := by decide +kernel
theorem dX1_read_23 : decode cX1_read 23 = .ok (.ireturn, 1) := by decide +kernel
theorem dX1_read_24 : decode cX1_read 24 = .ok (.aload_n 0, 1) := by decide +kernel
theorem dX1_read_25 : decode cX1_read 25 = .ok (.getfield 11, 3) := by decide +kernel
theorem dX1_read_28 : decode cX1_read 28 = .ok (.iload_n 1, 1) := by decide +kernel
theorem dX1_read_29 : decode cX1_read 29 = .ok (.iconst 4, 1) := by decide +kernel
theorem dX1_read_30 : decode cX1_read 30 = .ok (.imul, 1) := by decide +kernel
theorem dX1_read_31 : decode cX1_read 31 = .ok (.iload_n 2, 1) := by decide +kernel
theorem dX1_read_32 : decode cX1_read 32 = .ok (.iadd, 1) := by decide +kernel
theorem dX1_read_33 : decode cX1_read 33 = .ok (.iaload, 1) := by decide +kernel
theorem dX1_read_34 : decode cX1_read 34 = .ok (.ireturn, 1) := by decide +kernel
theorem dX1_copyFrom_0 : decode cX1_copyFrom 0 = .ok (.aload_n 0, 1) := by decide +kernel
theorem dX1_copyFrom_1 : decode cX1_copyFrom 1 = .ok (.aload_n 1, 1) := by decide +kernel
theorem dX1_copyFrom_2 : decode cX1_copyFrom 2 = .ok (.getfield 15, 3) := by decide +kernel
theorem dX1_copyFrom_5 : decode cX1_copyFrom 5 = .ok (.putfield 15, 3) := by decide +kernel
theorem dX1_copyFrom_8 : decode cX1_copyFrom 8 = .ok (.aload_n 1, 1) := by decide +kernel
theorem dX1_copyFrom_9 : decode cX1_copyFrom 9 = .ok (.getfield 11, 3) := by decide +kernel
theorem dX1_copyFrom_12 : decode cX1_copyFrom 12 = .ok (.iconst 0, 1) := by decide +kernel
theorem dX1_copyFrom_13 : decode cX1_copyFrom 13 = .ok (.aload_n 0, 1) := by decide +kernel
theorem dX1_copyFrom_14 : decode cX1_copyFrom 14 = .ok (.getfield 11, 3) := by decide +kernel
theorem dX1_copyFrom_17 : decode cX1_copyFrom 17 = .ok (.iconst 0, 1) := by decide +kernel
theorem dX1_copyFrom_18 : decode cX1_copyFrom 18 = .ok (.bipush 24, 2) := by decide +kernel
theorem dX1_copyFrom_20 : decode cX1_copyFrom 20 = .ok (.invokestatic 19, 3) := by decide +kernel
theorem dX1_copyFrom_23 : decode cX1_copyFrom 23 = .ok (.return_, 1) := by decide +kernel
theorem dX2_init_0 : decode cX2_init 0 = .ok (.aload_n 0, 1) := by decide +kernel
theorem dX2_init_1 : decode cX2_init 1 = .ok (.invokespecial 3, 3) := by decide +kernel
theorem dX2_init_4 : decode cX2_init 4 = .ok (.aload_n 0, 1) := by decide +kernel
theorem dX2_init_5 : decode cX2_init 5 = .ok (.bipush 10, 2) := by decide +kernel
theorem dX2_init_7 : decode cX2_init 7 = .ok (.newarray .int, 2) := by decide +kernel
theorem dX2_init_9 : decode cX2_init 9 = .ok (.putfield 9, 3) := by decide +kernel
theorem dX2_init_12 : decode cX2_init 12 = .ok (.aload_n 0, 1) := by decide +kernel
theorem dX2_init_13 : decode cX2_init 13 = .ok (.bipush 6, 2) := by decide +kernel
theorem dX2_init_15 : decode cX2_init 15 = .ok (.anewarray 15, 3) := by decide +kernel
theorem dX2_init_18 : decode cX2_init 18 = .ok (.putfield 17, 3) := by decide +kernel
theorem dX2_init_21 : decode cX2_init 21 = .ok (.iconst 0, 1) := by decide +kernel
theorem dX2_init_22 : decode cX2_init 22 = .ok (.istore_n 1, 1) := by decide +kernel
theorem dX2_init_23 : decode cX2_init 23 = .ok (.iload_n 1, 1) := by decide +kernel
theorem dX2_init_24 : decode cX2_init 24 = .ok (.bipush 6, 2) := by decide +kernel
theorem dX2_init_26 : decode cX2_init 26 = .ok (.if_icmp .ge 22, 3) := by decide +kernel
theorem dX2_init_29 : decode cX2_init 29 = .ok (.aload_n 0, 1) := by decide +kernel
theorem dX2_init_30 : decode cX2_init 30 = .ok (.getfield 17, 3) := by decide +kernel
theorem dX2_init_33 : decode cX2_init 33 = .ok (.iload_n 1, 1) := by decide +kernel
theorem dX2_init_34 : decode cX2_init 34 = .ok (.new 15, 3) := by decide +kernel
theorem dX2_init_37 : decode cX2_init 37 = .ok (.dup, 1) := by decide +kernel
theorem dX2_init_38 : decode cX2_init 38 = .ok (.invokespecial 21, 3) := by decide +kernel
theorem dX2_init_41 : decode cX2_init 41 = .ok (.aastore, 1) := by decide +kernel
theorem dX2_init_42 : decode cX2_init 42 = .ok (.iinc 1 1, 3) := by decide +kernel
theorem dX2_init_45 : decode cX2_init 45 = .ok (.goto (-22), 3) := by decide +kernel
theorem dX2_init_48 : decode cX2_init 48 = .ok (.return_, 1) := by decide +kernel
theorem dX2_clear_0 : decode cX2_clear 0 = .ok (.aload_n 0, 1) := by decide +kernel
theorem dX2_clear_1 : decode cX2_clear 1 = .ok (.iconst 0, 1) := by decide +kernel
theorem dX2_clear_2 : decode cX2_clear 2 = .ok (.putfield 22, 3) := by decide +kernel
theorem dX2_clear_5 : decode cX2_clear 5 = .ok (.aload_n 0, 1) := by decide +kernel
theorem dX2_clear_6 : decode cX2_clear 6 = .ok (.iconst 4, 1) := by decide +kernel
theorem dX2_clear_7 : decode cX2_clear 7 = .ok (.putfield 26, 3) := by decide +kernel
theorem dX2_clear_10 : decode cX2_clear 10 = .ok (.aload_n 0, 1) := by decide +kernel
theorem dX2_clear_11 : decode cX2_clear 11 = .ok (.bipush 32, 2) := by decide +kernel
theorem dX2_clear_13 : decode cX2_clear 13 = .ok (.putfield 29, 3) := by decide +kernel
theorem dX2_clear_16 : decode cX2_clear 16 = .ok (.aload_n 0, 1) := by decide +kernel
theorem dX2_clear_17 : decode cX2_clear 17 = .ok (.iconst 3, 1) := by decide +kernel
theorem dX2_clear_18 : decode cX2_clear 18 = .ok (.putfield 32, 3) := by decide +kernel
theorem dX2_clear_21 : decode cX2_clear 21 = .ok (.aload_n 0, 1) := by decide +kernel
theorem dX2_clear_22 : decode cX2_clear 22 = .ok (.iconst 5, 1) := by decide +kernel
theorem dX2_clear_23 : decode cX2_clear 23 = .ok (.putfield 35, 3) := by decide +kernel
theorem dX2_clear_26 : decode cX2_clear 26 = .ok (.aload_n 0, 1) := by decide +kernel
theorem dX2_clear_27 : decode cX2_clear 27 = .ok (.iconst 0, 1) := by decide +kernel
theorem dX2_clear_28 : decode cX2_clear 28 = .ok (.putfield 38, 3) := by decide +kernel
theorem dX2_clear_31 : decode cX2_clear 31 = .ok (.aload_n 0, 1) := by decide +kernel
theorem dX2_clear_32 : decode cX2_clear 32 = .ok (.iconst 0, 1) := by decide +kernel
theorem dX2_clear_33 : decode cX2_clear 33 = .ok (.putfield 41, 3) := by decide +kernel
theorem dX2_clear_36 : decode cX2_clear 36 = .ok (.aload_n 0, 1) := by decide +kernel
theorem dX2_clear_37 : decode cX2_clear 37 = .ok (.iconst 0, 1) := by decide +kernel
theorem dX2_clear_38 : decode cX2_clear 38 = .ok (.putfield 44, 3) := by decide +kernel
theorem dX2_clear_41 : decode cX2_clear 41 = .ok (.iconst 0, 1) := by decide +kernel
theorem dX2_clear_42 : decode cX2_clear 42 = .ok (.istore_n 1, 1) := by decide +kernel
theorem dX2_clear_43 : decode cX2_clear 43 = .ok (.iload_n 1, 1) := by decide +kernel
theorem dX2_clear_44 : decode cX2_clear 44 = .ok (.bipush 9, 2) := by decide +kernel
theorem dX2_clear_46 : decode cX2_clear 46 = .ok (.if_icmp .gt 16, 3) := by decide +kernel
theorem dX2_clear_49 : decode cX2_clear 49 = .ok (.aload_n 0, 1) := by decide +kernel
theorem dX2_clear_50 : decode cX2_clear 50 = .ok (.getfield 9, 3) := by decide +kernel
theorem dX2_clear_53 : decode cX2_clear 53 = .ok (.iload_n 1, 1) := by decide +kernel
theorem dX2_clear_54 : decode cX2_clear 54 = .ok (.iconst 0, 1) := by decide +kernel
theorem dX2_clear_55 : decode cX2_clear 55 = .ok (.iastore, 1) := by decide +kernel
theorem dX2_clear_56 : decode cX2_clear 56 = .ok (.iinc 1 1, 3) := by decide +kernel
theorem dX2_clear_59 : decode cX2_clear 59 = .ok (.goto (-16), 3) := by decide +kernel
theorem dX2_clear_62 : decode cX2_clear 62 = .ok (.iconst 0, 1) := by decide +kernel
theorem dX2_clear_63 : decode cX2_clear 63 = .ok (.istore_n 1, 1) := by decide +kernel
theorem dX2_clear_64 : decode cX2_clear 64 = .ok (.iload_n 1, 1) := by decide +kernel
theorem dX2_clear_65 : decode cX2_clear 65 = .ok (.bipush 6, 2) := by decide +kernel
theorem dX2_clear_67 : decode cX2_clear 67 = .ok (.if_icmp .ge 18, 3) := by decide +kernel
theorem dX2_clear_70 : decode cX2_clear 70 = .ok (.aload_n 0, 1) := by decide +kernel
theorem dX2_clear_71 : decode cX2_clear 71 = .ok (.getfield 17, 3) := by decide +kernel
theorem dX2_clear_74 : decode cX2_clear 74 = .ok (.iload_n 1, 1) := by decide +kernel
theorem dX2_clear_75 : decode cX2_clear 75 = .ok (.aaload, 1) := by decide +kernel
theorem dX2_clear_76 : decode cX2_clear 76 = .ok (.invokevirtual 47, 3) := by decide +kernel
theorem dX2_clear_79 : decode cX2_clear 79 = .ok (.iinc 1 1, 3) := by decide +kernel
theorem dX2_clear_82 : decode cX2_clear 82 = .ok (.goto (-18), 3) := by decide +kernel
theorem dX2_clear_85 : decode cX2_clear 85 = .ok (.return_, 1) := by decide +kernel
theorem dX2_copyFrom_0 : decode cX2_copyFrom 0 = .ok (.aload_n 0, 1) := by decide +kernel
theorem dX2_copyFrom_1 : decode cX2_copyFrom 1 = .ok (.aload_n 1, 1) := by decide +kernel
theorem dX2_copyFrom_2 : decode cX2_copyFrom 2 = .ok (.getfield 22, 3) := by decide +kernel
theorem dX2_copyFrom_5 : decode cX2_copyFrom 5 = .ok (.putfield 22, 3) := by decide +kernel
theorem dX2_copyFrom_8 : decode cX2_copyFrom 8 = .ok (.aload_n 0, 1) := by decide +kernel
theorem dX2_copyFrom_9 : decode cX2_copyFrom 9 = .ok (.aload_n 1, 1) := by decide +kernel
theorem dX2_copyFrom_10 : decode cX2_copyFrom 10 = .ok (.getfield 26, 3) := by decide +kernel
theorem dX2_copyFrom_13 : decode cX2_copyFrom 13 = .ok (.putfield 26, 3) := by decide +kernel
theorem dX2_copyFrom_16 : decode cX2_copyFrom 16 = .ok (.aload_n 0, 1) := by decide +kernel
theorem dX2_copyFrom_17 : decode cX2_copyFrom 17 = .ok (.aload_n 1, 1) := by decide +kernel
theorem dX2_copyFrom_18 : decode cX2_copyFrom 18 = .ok (.getfield 29, 3) := by decide +kernel
theorem dX2_copyFrom_21 : decode cX2_copyFrom 21 = .ok (.putfield 29, 3) := by decide +kernel
theorem dX2_copyFrom_24 : decode cX2_copyFrom 24 = .ok (.aload_n 0, 1) := by decide +kernel
theorem dX2_copyFrom_25 : decode cX2_copyFrom 25 = .ok (.aload_n 1, 1) := by decide +kernel
theorem dX2_copyFrom_26 : decode cX2_copyFrom 26 = .ok (.getfield 32, 3) := by decide +kernel
theorem dX2_copyFrom_29 : decode cX2_copyFrom 29 = .ok (.putfield 32, 3) := by decide +kernel
theorem dX2_copyFrom_32 : decode cX2_copyFrom 32 = .ok (.aload_n 0, 1) := by decide +kernel
theorem dX2_copyFrom_33 : decode cX2_copyFrom 33 = .ok (.aload_n 1, 1) := by decide +kernel
theorem dX2_copyFrom_34 : decode cX2_copyFrom 34 = .ok (.getfield 35, 3) := by decide +kernel
theorem dX2_copyFrom_37 : decode cX2_copyFrom 37 = .ok (.putfield 35, 3) := by decide +kernel
theorem dX2_copyFrom_40 : decode cX2_copyFrom 40 = .ok (.aload_n 0, 1) := by decide +kernel
theorem dX2_copyFrom_41 : decode cX2_copyFrom 41 = .ok (.aload_n 1, 1) := by decide +kernel
theorem dX2_copyFrom_42 : decode cX2_copyFrom 42 = .ok (.getfield 38, 3) := by decide +kernel
theorem dX2_copyFrom_45 : decode cX2_copyFrom 45 = .ok (.putfield 38, 3) := by decide +kernel
theorem dX2_copyFrom_48 : decode cX2_copyFrom 48 = .ok (.aload_n 0, 1) := by decide +kernel
theorem dX2_copyFrom_49 : decode cX2_copyFrom 49 = .ok (.aload_n 1, 1) := by decide +kernel
theorem dX2_copyFrom_50 : decode cX2_copyFrom 50 = .ok (.getfield 41, 3) := by decide +kernel
theorem dX2_copyFrom_53 : decode cX2_copyFrom 53 = .ok (.putfield 41, 3) := by decide +kernel
theorem dX2_copyFrom_56 : decode cX2_copyFrom 56 = .ok (.aload_n 0, 1) := by decide +kernel
theorem dX2_copyFrom_57 : decode cX2_copyFrom 57 = .ok (.aload_n 1, 1) := by decide +kernel
theorem dX2_copyFrom_58 : decode cX2_copyFrom 58 = .ok (.getfield 44, 3) := by decide +kernel
theorem dX2_copyFrom_61 : decode cX2_copyFrom 61 = .ok (.putfield 44, 3) := by decide +kernel
theorem dX2_copyFrom_64 : decode cX2_copyFrom 64 = .ok (.aload_n 1, 1) := by decide +kernel
theorem dX2_copyFrom_65 : decode cX2_copyFrom 65 = .ok (.getfield 9, 3) := by decide +kernel
theorem dX2_copyFrom_68 : decode cX2_copyFrom 68 = .ok (.iconst 0, 1) := by decide +kernel
theorem dX2_copyFrom_69 : decode cX2_copyFrom 69 = .ok (.aload_n 0, 1) := by decide +kernel
theorem dX2_copyFrom_70 : decode cX2_copyFrom 70 = .ok (.getfield 9, 3) := by decide +kernel
theorem dX2_copyFrom_73 : decode cX2_copyFrom 73 = .ok (.iconst 0, 1) := by decide +kernel
theorem dX2_copyFrom_74 : decode cX2_copyFrom 74 = .ok (.bipush 10, 2) := by decide +kernel
theorem dX2_copyFrom_76 : decode cX2_copyFrom 76 = .ok (.invokestatic 50, 3) := by decide +kernel
theorem dX2_copyFrom_79 : decode cX2_copyFrom 79 = .ok (.iconst 0, 1) := by decide +kernel
theorem dX2_copyFrom_80 : decode cX2_copyFrom 80 = .ok (.istore_n 2, 1) := by decide +kernel
theorem dX2_copyFrom_81 : decode cX2_copyFrom 81 = .ok (.iload_n 2, 1) := by decide +kernel
theorem dX2_copyFrom_82 : decode cX2_copyFrom 82 = .ok (.bipush 6, 2) := by decide +kernel
theorem dX2_copyFrom_84 : decode cX2_copyFrom 84 = .ok (.if_icmp .ge 24, 3) := by decide +kernel
theorem dX2_copyFrom_87 : decode cX2_copyFrom 87 = .ok (.aload_n 0, 1) := by decide +kernel
theorem dX2_copyFrom_88 : decode cX2_copyFrom 88 = .ok (.getfield 17, 3) := by decide +kernel
theorem dX2_copyFrom_91 : decode cX2_copyFrom 91 = .ok (.iload_n 2, 1) := by decide +kernel
theorem dX2_copyFrom_92 : decode cX2_copyFrom 92 = .ok (.aaload, 1) := by decide +kernel
theorem dX2_copyFrom_93 : decode cX2_copyFrom 93 = .ok (.aload_n 1, 1) := by decide +kernel
theorem dX2_copyFrom_94 : decode cX2_copyFrom 94 = .ok (.getfield 17, 3) := by decide +kernel
theorem dX2_copyFrom_97 : decode cX2_copyFrom 97 = .ok (.iload_n 2, 1) := by decide +kernel
theorem dX2_copyFrom_98 : decode cX2_copyFrom 98 = .ok (.aaload, 1) := by decide +kernel
theorem dX2_copyFrom_99 : decode cX2_copyFrom 99 = .ok (.invokevirtual 56, 3) := by decide +kernel
theorem dX2_copyFrom_102 : decode cX2_copyFrom 102 = .ok (.iinc 2 1, 3) := by decide +kernel
theorem dX2_copyFrom_105 : decode cX2_copyFrom 105 = .ok (.goto (-24), 3) := by decide +kernel
theorem dX2_copyFrom_108 : decode cX2_copyFrom 108 = .ok (.return_, 1) := by decide +kernel
theorem dX2_hears_0 : decode cX2_hears 0 = .ok (.aload_n 0, 1) := by decide +kernel
theorem dX2_hears_1 : decode cX2_hears 1 = .ok (.getfield 17, 3) := by decide +kernel
theorem dX2_hears_4 : decode cX2_hears 4 = .ok (.iload_n 1, 1) := by decide +kernel
theorem dX2_hears_5 : decode cX2_hears 5 = .ok (.aaload, 1) := by decide +kernel
theorem dX2_hears_6 : decode cX2_hears 6 = .ok (.getfield 60, 3) := by decide +kernel
theorem dX2_hears_9 : decode cX2_hears 9 = .ok (.iload_n 2, 1) := by decide +kernel
theorem dX2_hears_10 : decode cX2_hears 10 = .ok (.ishr, 1) := by decide +kernel
theorem dX2_hears_11 : decode cX2_hears 11 = .ok (.iconst 1, 1) := by decide +kernel
theorem dX2_hears_12 : decode cX2_hears 12 = .ok (.iand, 1) := by decide +kernel
theorem dX2_hears_13 : decode cX2_hears 13 = .ok (.iconst 1, 1) := by decide +kernel
theorem dX2_hears_14 : decode cX2_hears 14 = .ok (.if_icmp .ne 7, 3) := by decide +kernel
theorem dX2_hears_17 : decode cX2_hears 17 = .ok (.iconst 1, 1) := by decide +kernel
theorem dX2_hears_18 : decode cX2_hears 18 = .ok (.goto 4, 3) := by decide +kernel
theorem dX2_hears_21 : decode cX2_hears 21 = .ok (.iconst 0, 1) := by decide +kernel
theorem dX2_hears_22 : decode cX2_hears 22 = .ok (.ireturn, 1) := by decide +kernel
theorem dX2_join_0 : decode cX2_join 0 = .ok (.iload_n 3, 1) := by decide +kernel
theorem dX2_join_1 : decode cX2_join 1 = .ok (.ifCond .eq 40, 3) := by decide +kernel
theorem dX2_join_4 : decode cX2_join 4 = .ok (.aload_n 0, 1) := by decide +kernel
theorem dX2_join_5 : decode cX2_join 5 = .ok (.getfield 17, 3) := by decide +kernel
theorem dX2_join_8 : decode cX2_join 8 = .ok (.iload_n 1, 1) := by decide +kernel
theorem dX2_join_9 : decode cX2_join 9 = .ok (.aaload, 1) := by decide +kernel
theorem dX2_join_10 : decode cX2_join 10 = .ok (.dup, 1) := by decide +kernel
theorem dX2_join_11 : decode cX2_join 11 = .ok (.getfield 60, 3) := by decide +kernel
theorem dX2_join_14 : decode cX2_join 14 = .ok (.iconst 1, 1) := by decide +kernel
theorem dX2_join_15 : decode cX2_join 15 = .ok (.iload_n 2, 1) := by decide +kernel
theorem dX2_join_16 : decode cX2_join 16 = .ok (.ishl, 1) := by decide +kernel
theorem dX2_join_17 : decode cX2_join 17 = .ok (.ior, 1) := by decide +kernel
theorem dX2_join_18 : decode cX2_join 18 = .ok (.putfield 60, 3) := by decide +kernel
theorem dX2_join_21 : decode cX2_join 21 = .ok (.aload_n 0, 1) := by decide +kernel
theorem dX2_join_22 : decode cX2_join 22 = .ok (.getfield 17, 3) := by decide +kernel
theorem dX2_join_25 : decode cX2_join 25 = .ok (.iload_n 2, 1) := by decide +kernel
theorem dX2_join_26 : decode cX2_join 26 = .ok (.aaload, 1) := by decide +kernel
theorem dX2_join_27 : decode cX2_join 27 = .ok (.dup, 1) := by decide +kernel
theorem dX2_join_28 : decode cX2_join 28 = .ok (.getfield 60, 3) := by decide +kernel
theorem dX2_join_31 : decode cX2_join 31 = .ok (.iconst 1, 1) := by decide +kernel
theorem dX2_join_32 : decode cX2_join 32 = .ok (.iload_n 1, 1) := by decide +kernel
theorem dX2_join_33 : decode cX2_join 33 = .ok (.ishl, 1) := by decide +kernel
theorem dX2_join_34 : decode cX2_join 34 = .ok (.ior, 1) := by decide +kernel
theorem dX2_join_35 : decode cX2_join 35 = .ok (.putfield 60, 3) := by decide +kernel
theorem dX2_join_38 : decode cX2_join 38 = .ok (.goto 41, 3) := by decide +kernel
theorem dX2_join_41 : decode cX2_join 41 = .ok (.aload_n 0, 1) := by decide +kernel
theorem dX2_join_42 : decode cX2_join 42 = .ok (.getfield 17, 3) := by decide +kernel
theorem dX2_join_45 : decode cX2_join 45 = .ok (.iload_n 1, 1) := by decide +kernel
theorem dX2_join_46 : decode cX2_join 46 = .ok (.aaload, 1) := by decide +kernel
theorem dX2_join_47 : decode cX2_join 47 = .ok (.dup, 1) := by decide +kernel
theorem dX2_join_48 : decode cX2_join 48 = .ok (.getfield 60, 3) := by decide +kernel
theorem dX2_join_51 : decode cX2_join 51 = .ok (.iconst 1, 1) := by decide +kernel
theorem dX2_join_52 : decode cX2_join 52 = .ok (.iload_n 2, 1) := by decide +kernel
theorem dX2_join_53 : decode cX2_join 53 = .ok (.ishl, 1) := by decide +kernel
theorem dX2_join_54 : decode cX2_join 54 = .ok (.iconst (-1), 1) := by decide +kernel
theorem dX2_join_55 : decode cX2_join 55 = .ok (.ixor, 1) := by decide +kernel
theorem dX2_join_56 : decode cX2_join 56 = .ok (.iand, 1) := by decide +kernel
theorem dX2_join_57 : decode cX2_join 57 = .ok (.putfield 60, 3) := by decide +kernel
theorem dX2_join_60 : decode cX2_join 60 = .ok (.aload_n 0, 1) := by decide +kernel
theorem dX2_join_61 : decode cX2_join 61 = .ok (.getfield 17, 3) := by decide +kernel
theorem dX2_join_64 : decode cX2_join 64 = .ok (.iload_n 2, 1) := by decide +kernel
theorem dX2_join_65 : decode cX2_join 65 = .ok (.aaload, 1) := by decide +kernel
theorem dX2_join_66 : decode cX2_join 66 = .ok (.dup, 1) := by decide +kernel
theorem dX2_join_67 : decode cX2_join 67 = .ok (.getfield 60, 3) := by decide +kernel
theorem dX2_join_70 : decode cX2_join 70 = .ok (.iconst 1, 1) := by decide +kernel
theorem dX2_join_71 : decode cX2_join 71 = .ok (.iload_n 1, 1) := by decide +kernel
theorem dX2_join_72 : decode cX2_join 72 = .ok (.ishl, 1) := by decide +kernel
theorem dX2_join_73 : decode cX2_join 73 = .ok (.iconst (-1), 1) := by decide +kernel
theorem dX2_join_74 : decode cX2_join 74 = .ok (.ixor, 1) := by decide +kernel
theorem dX2_join_75 : decode cX2_join 75 = .ok (.iand, 1) := by decide +kernel
theorem dX2_join_76 : decode cX2_join 76 = .ok (.putfield 60, 3) := by decide +kernel
theorem dX2_join_79 : decode cX2_join 79 = .ok (.return_, 1) := by decide +kernel
theorem dX2_nearness_0 : decode cX2_nearness 0 = .ok (.aload_n 0, 1) := by decide +kernel
theorem dX2_nearness_1 : decode cX2_nearness 1 = .ok (.iload_n 1, 1) := by decide +kernel
theorem dX2_nearness_2 : decode cX2_nearness 2 = .ok (.iload_n 2, 1) := by decide +kernel
theorem dX2_nearness_3 : decode cX2_nearness 3 = .ok (.invokevirtual 63, 3) := by decide +kernel
theorem dX2_nearness_6 : decode cX2_nearness 6 = .ok (.ifCond .eq 5, 3) := by decide +kernel
theorem dX2_nearness_9 : decode cX2_nearness 9 = .ok (.iconst 0, 1) := by decide +kernel
theorem dX2_nearness_10 : decode cX2_nearness 10 = .ok (.ireturn, 1) := by decide +kernel
theorem dX2_nearness_11 : decode cX2_nearness 11 = .ok (.aload_n 0, 1) := by decide +kernel
theorem dX2_nearness_12 : decode cX2_nearness 12 = .ok (.getfield 17, 3) := by decide +kernel
theorem dX2_nearness_15 : decode cX2_nearness 15 = .ok (.iload_n 1, 1) := by decide +kernel
theorem dX2_nearness_16 : decode cX2_nearness 16 = .ok (.aaload, 1) := by decide +kernel
theorem dX2_nearness_17 : decode cX2_nearness 17 = .ok (.getfield 60, 3) := by decide +kernel
theorem dX2_nearness_20 : decode cX2_nearness 20 = .ok (.aload_n 0, 1) := by decide +kernel
theorem dX2_nearness_21 : decode cX2_nearness 21 = .ok (.getfield 17, 3) := by decide +kernel
theorem dX2_nearness_24 : decode cX2_nearness 24 = .ok (.iload_n 2, 1) := by decide +kernel
theorem dX2_nearness_25 : decode cX2_nearness 25 = .ok (.aaload, 1) := by decide +kernel
theorem dX2_nearness_26 : decode cX2_nearness 26 = .ok (.getfield 60, 3) := by decide +kernel
theorem dX2_nearness_29 : decode cX2_nearness 29 = .ok (.iand, 1) := by decide +kernel
theorem dX2_nearness_30 : decode cX2_nearness 30 = .ok (.ifCond .eq 7, 3) := by decide +kernel
theorem dX2_nearness_33 : decode cX2_nearness 33 = .ok (.iconst 1, 1) := by decide +kernel
theorem dX2_nearness_34 : decode cX2_nearness 34 = .ok (.goto 4, 3) := by decide +kernel
theorem dX2_nearness_37 : decode cX2_nearness 37 = .ok (.iconst 2, 1) := by decide +kernel
theorem dX2_nearness_38 : decode cX2_nearness 38 = .ok (.ireturn, 1) := by decide +kernel
theorem dX2_pairsOf_0 : decode cX2_pairsOf 0 = .ok (.iconst 0, 1) := by decide +kernel
theorem dX2_pairsOf_1 : decode cX2_pairsOf 1 = .ok (.istore_n 2, 1) := by decide +kernel
theorem dX2_pairsOf_2 : decode cX2_pairsOf 2 = .ok (.iconst 0, 1) := by decide +kernel
theorem dX2_pairsOf_3 : decode cX2_pairsOf 3 = .ok (.istore_n 3, 1) := by decide +kernel
theorem dX2_pairsOf_4 : decode cX2_pairsOf 4 = .ok (.iload_n 3, 1) := by decide +kernel
theorem dX2_pairsOf_5 : decode cX2_pairsOf 5 = .ok (.aload_n 0, 1) := by decide +kernel
theorem dX2_pairsOf_6 : decode cX2_pairsOf 6 = .ok (.getfield 22, 3) := by decide +kernel
theorem dX2_pairsOf_9 : decode cX2_pairsOf 9 = .ok (.if_icmp .ge 43, 3) := by decide +kernel
theorem dX2_pairsOf_12 : decode cX2_pairsOf 12 = .ok (.iload_n 3, 1) := by decide +kernel
theorem dX2_pairsOf_13 : decode cX2_pairsOf 13 = .ok (.iconst 1, 1) := by decide +kernel
theorem dX2_pairsOf_14 : decode cX2_pairsOf 14 = .ok (.iadd, 1) := by decide +kernel
theorem dX2_pairsOf_15 : decode cX2_pairsOf 15 = .ok (.istore 4, 2) := by decide +kernel
theorem dX2_pairsOf_17 : decode cX2_pairsOf 17 = .ok (.iload 4, 2) := by decide +kernel
theorem dX2_pairsOf_19 : decode cX2_pairsOf 19 = .ok (.aload_n 0, 1) := by decide +kernel
theorem dX2_pairsOf_20 : decode cX2_pairsOf 20 = .ok (.getfield 22, 3) := by decide +kernel
theorem dX2_pairsOf_23 : decode cX2_pairsOf 23 = .ok (.if_icmp .ge 23, 3) := by decide +kernel
theorem dX2_pairsOf_26 : decode cX2_pairsOf 26 = .ok (.aload_n 0, 1) := by decide +kernel
theorem dX2_pairsOf_27 : decode cX2_pairsOf 27 = .ok (.iload_n 3, 1) := by decide +kernel
theorem dX2_pairsOf_28 : decode cX2_pairsOf 28 = .ok (.iload 4, 2) := by decide +kernel
theorem dX2_pairsOf_30 : decode cX2_pairsOf 30 = .ok (.invokevirtual 66, 3) := by decide +kernel
theorem dX2_pairsOf_33 : decode cX2_pairsOf 33 = .ok (.iload_n 1, 1) := by decide +kernel
theorem dX2_pairsOf_34 : decode cX2_pairsOf 34 = .ok (.if_icmp .ne 6, 3) := by decide +kernel
theorem dX2_pairsOf_37 : decode cX2_pairsOf 37 = .ok (.iinc 2 1, 3) := by decide +kernel
theorem dX2_pairsOf_40 : decode cX2_pairsOf 40 = .ok (.iinc 4 1, 3) := by decide +kernel
theorem dX2_pairsOf_43 : decode cX2_pairsOf 43 = .ok (.goto (-26), 3) := by decide +kernel
theorem dX2_pairsOf_46 : decode cX2_pairsOf 46 = .ok (.iinc 3 1, 3) := by decide +kernel
theorem dX2_pairsOf_49 : decode cX2_pairsOf 49 = .ok (.goto (-45), 3) := by decide +kernel
theorem dX2_pairsOf_52 : decode cX2_pairsOf 52 = .ok (.iload_n 2, 1) := by decide +kernel
theorem dX2_pairsOf_53 : decode cX2_pairsOf 53 = .ok (.ireturn, 1) := by decide +kernel
theorem dX2_isAsked_0 : decode cX2_isAsked 0 = .ok (.iload_n 1, 1) := by decide +kernel
theorem dX2_isAsked_1 : decode cX2_isAsked 1 = .ok (.aload_n 0, 1) := by decide +kernel
theorem dX2_isAsked_2 : decode cX2_isAsked 2 = .ok (.getfield 32, 3) := by decide +kernel
theorem dX2_isAsked_5 : decode cX2_isAsked 5 = .ok (.if_icmp .lt 7, 3) := by decide +kernel
theorem dX2_isAsked_8 : decode cX2_isAsked 8 = .ok (.iconst 1, 1) := by decide +kernel
theorem dX2_isAsked_9 : decode cX2_isAsked 9 = .ok (.goto 4, 3) := by decide +kernel
theorem dX2_isAsked_12 : decode cX2_isAsked 12 = .ok (.iconst 0, 1) := by decide +kernel
theorem dX2_isAsked_13 : decode cX2_isAsked 13 = .ok (.ireturn, 1) := by decide +kernel
theorem dX2_totalOf_0 : decode cX2_totalOf 0 = .ok (.iconst 0, 1) := by decide +kernel
theorem dX2_totalOf_1 : decode cX2_totalOf 1 = .ok (.istore_n 2, 1) := by decide +kernel
theorem dX2_totalOf_2 : decode cX2_totalOf 2 = .ok (.iconst 0, 1) := by decide +kernel
theorem dX2_totalOf_3 : decode cX2_totalOf 3 = .ok (.istore_n 3, 1) := by decide +kernel
theorem dX2_totalOf_4 : decode cX2_totalOf 4 = .ok (.iload_n 3, 1) := by decide +kernel
theorem dX2_totalOf_5 : decode cX2_totalOf 5 = .ok (.aload_n 0, 1) := by decide +kernel
theorem dX2_totalOf_6 : decode cX2_totalOf 6 = .ok (.getfield 22, 3) := by decide +kernel
theorem dX2_totalOf_9 : decode cX2_totalOf 9 = .ok (.if_icmp .ge 22, 3) := by decide +kernel
theorem dX2_totalOf_12 : decode cX2_totalOf 12 = .ok (.iload_n 2, 1) := by decide +kernel
theorem dX2_totalOf_13 : decode cX2_totalOf 13 = .ok (.aload_n 0, 1) := by decide +kernel
theorem dX2_totalOf_14 : decode cX2_totalOf 14 = .ok (.getfield 17, 3) := by decide +kernel
theorem dX2_totalOf_17 : decode cX2_totalOf 17 = .ok (.iload_n 3, 1) := by decide +kernel
theorem dX2_totalOf_18 : decode cX2_totalOf 18 = .ok (.aaload, 1) := by decide +kernel
theorem dX2_totalOf_19 : decode cX2_totalOf 19 = .ok (.iload_n 1, 1) := by decide +kernel
theorem dX2_totalOf_20 : decode cX2_totalOf 20 = .ok (.invokevirtual 70, 3) := by decide +kernel
theorem dX2_totalOf_23 : decode cX2_totalOf 23 = .ok (.iadd, 1) := by decide +kernel
theorem dX2_totalOf_24 : decode cX2_totalOf 24 = .ok (.istore_n 2, 1) := by decide +kernel
theorem dX2_totalOf_25 : decode cX2_totalOf 25 = .ok (.iinc 3 1, 3) := by decide +kernel
theorem dX2_totalOf_28 : decode cX2_totalOf 28 = .ok (.goto (-24), 3) := by decide +kernel
theorem dX2_totalOf_31 : decode cX2_totalOf 31 = .ok (.iload_n 2, 1) := by decide +kernel
theorem dX2_totalOf_32 : decode cX2_totalOf 32 = .ok (.ireturn, 1) := by decide +kernel
theorem dX2_drawFirstWaits_0 : decode cX2_drawFirstWaits 0 = .ok (.iconst 0, 1) := by decide +kernel
theorem dX2_drawFirstWaits_1 : decode cX2_drawFirstWaits 1 = .ok (.istore_n 1, 1) := by decide +kernel
theorem dX2_drawFirstWaits_2 : decode cX2_drawFirstWaits 2 = .ok (.iload_n 1, 1) := by decide +kernel
theorem dX2_drawFirstWaits_3 : decode cX2_drawFirstWaits 3 = .ok (.aload_n 0, 1) := by decide +kernel
theorem dX2_drawFirstWaits_4 : decode cX2_drawFirstWaits 4 = .ok (.getfield 22, 3) := by decide +kernel
theorem dX2_drawFirstWaits_7 : decode cX2_drawFirstWaits 7 = .ok (.if_icmp .ge 27, 3) := by decide +kernel
theorem dX2_drawFirstWaits_10 : decode cX2_drawFirstWaits 10 = .ok (.aload_n 0, 1) := by decide +kernel
theorem dX2_drawFirstWaits_11 : decode cX2_drawFirstWaits 11 = .ok (.getfield 17, 3) := by decide +kernel
theorem dX2_drawFirstWaits_14 : decode cX2_drawFirstWaits 14 = .ok (.iload_n 1, 1) := by decide +kernel
theorem dX2_drawFirstWaits_15 : decode cX2_drawFirstWaits 15 = .ok (.aaload, 1) := by decide +kernel
theorem dX2_drawFirstWaits_16 : decode cX2_drawFirstWaits 16 = .ok (.aload_n 0, 1) := by decide +kernel
theorem dX2_drawFirstWaits_17 : decode cX2_drawFirstWaits 17 = .ok (.getfield 26, 3) := by decide +kernel
theorem dX2_drawFirstWaits_20 : decode cX2_drawFirstWaits 20 = .ok (.putfield 74, 3) := by decide +kernel
theorem dX2_drawFirstWaits_23 : decode cX2_drawFirstWaits 23 = .ok (.aload_n 0, 1) := by decide +kernel
theorem dX2_drawFirstWaits_24 : decode cX2_drawFirstWaits 24 = .ok (.iload_n 1, 1) := by decide +kernel
theorem dX2_drawFirstWaits_25 : decode cX2_drawFirstWaits 25 = .ok (.invokevirtual 77, 3) := by decide +kernel
theorem dX2_drawFirstWaits_28 : decode cX2_drawFirstWaits 28 = .ok (.iinc 1 1, 3) := by decide +kernel
theorem dX2_drawFirstWaits_31 : decode cX2_drawFirstWaits 31 = .ok (.goto (-29), 3) := by decide +kernel
theorem dX2_drawFirstWaits_34 : decode cX2_drawFirstWaits 34 = .ok (.return_, 1) := by decide +kernel
theorem dX2_drawWait_0 : decode cX2_drawWait 0 = .ok (.aload_n 0, 1) := by decide +kernel
theorem dX2_drawWait_1 : decode cX2_drawWait 1 = .ok (.getfield 17, 3) := by decide +kernel
theorem dX2_drawWait_4 : decode cX2_drawWait 4 = .ok (.iload_n 1, 1) := by decide +kernel
theorem dX2_drawWait_5 : decode cX2_drawWait 5 = .ok (.aaload, 1) := by decide +kernel
theorem dX2_drawWait_6 : decode cX2_drawWait 6 = .ok (.astore_n 2, 1) := by decide +kernel
theorem dX2_drawWait_7 : decode cX2_drawWait 7 = .ok (.aload_n 2, 1) := by decide +kernel
theorem dX2_drawWait_8 : decode cX2_drawWait 8 = .ok (.getfield 81, 3) := by decide +kernel
theorem dX2_drawWait_11 : decode cX2_drawWait 11 = .ok (.getfield 85, 3) := by decide +kernel
theorem dX2_drawWait_14 : decode cX2_drawWait 14 = .ok (.ifCond .eq 11, 3) := by decide +kernel
theorem dX2_drawWait_17 : decode cX2_drawWait 17 = .ok (.aload_n 2, 1) := by decide +kernel
theorem dX2_drawWait_18 : decode cX2_drawWait 18 = .ok (.getfield 74, 3) := by decide +kernel
theorem dX2_drawWait_21 : decode cX2_drawWait 21 = .ok (.iconst 1, 1) := by decide +kernel
theorem dX2_drawWait_22 : decode cX2_drawWait 22 = .ok (.if_icmp .ge 9, 3) := by decide +kernel
theorem dX2_drawWait_25 : decode cX2_drawWait 25 = .ok (.aload_n 2, 1) := by decide +kernel
theorem dX2_drawWait_26 : decode cX2_drawWait 26 = .ok (.iconst 0, 1) := by decide +kernel
theorem dX2_drawWait_27 : decode cX2_drawWait 27 = .ok (.putfield 90, 3) := by decide +kernel
theorem dX2_drawWait_30 : decode cX2_drawWait 30 = .ok (.return_, 1) := by decide +kernel
theorem dX2_drawWait_31 : decode cX2_drawWait 31 = .ok (.aload_n 2, 1) := by decide +kernel
theorem dX2_drawWait_32 : decode cX2_drawWait 32 = .ok (.aload_n 0, 1) := by decide +kernel
theorem dX2_drawWait_33 : decode cX2_drawWait 33 = .ok (.getfield 38, 3) := by decide +kernel
theorem dX2_drawWait_36 : decode cX2_drawWait 36 = .ok (.iload_n 1, 1) := by decide +kernel
theorem dX2_drawWait_37 : decode cX2_drawWait 37 = .ok (.aload_n 2, 1) := by decide +kernel
theorem dX2_drawWait_38 : decode cX2_drawWait 38 = .ok (.getfield 93, 3) := by decide +kernel
theorem dX2_drawWait_41 : decode cX2_drawWait 41 = .ok (.invokestatic 96, 3) := by decide +kernel
theorem dX2_drawWait_44 : decode cX2_drawWait 44 = .ok (.aload_n 2, 1) := by decide +kernel
theorem dX2_drawWait_45 : decode cX2_drawWait 45 = .ok (.getfield 74, 3) := by decide +kernel
theorem dX2_drawWait_48 : decode cX2_drawWait 48 = .ok (.irem, 1) := by decide +kernel
theorem dX2_drawWait_49 : decode cX2_drawWait 49 = .ok (.putfield 90, 3) := by decide +kernel
theorem dX2_drawWait_52 : decode cX2_drawWait 52 = .ok (.aload_n 2, 1) := by decide +kernel
theorem dX2_drawWait_53 : decode cX2_drawWait 53 = .ok (.dup, 1) := by decide +kernel
theorem dX2_drawWait_54 : decode cX2_drawWait 54 = .ok (.getfield 93, 3) := by decide +kernel
theorem dX2_drawWait_57 : decode cX2_drawWait 57 = .ok (.iconst 1, 1) := by decide +kernel
theorem dX2_drawWait_58 : decode cX2_drawWait 58 = .ok (.iadd, 1) := by decide +kernel
theorem dX2_drawWait_59 : decode cX2_drawWait 59 = .ok (.putfield 93, 3) := by decide +kernel
theorem dX2_drawWait_62 : decode cX2_drawWait 62 = .ok (.return_, 1) := by decide +kernel
theorem dX2_mayBegin_0 : decode cX2_mayBegin 0 = .ok (.aload_n 0, 1) := by decide +kernel
theorem dX2_mayBegin_1 : decode cX2_mayBegin 1 = .ok (.getfield 41, 3) := by decide +kernel
theorem dX2_mayBegin_4 : decode cX2_mayBegin 4 = .ok (.iconst 1, 1) := by decide +kernel
theorem dX2_mayBegin_5 : decode cX2_mayBegin 5 = .ok (.iadd, 1) := by decide +kernel
theorem dX2_mayBegin_6 : decode cX2_mayBegin 6 = .ok (.aload_n 1, 1) := by decide +kernel
theorem dX2_mayBegin_7 : decode cX2_mayBegin 7 = .ok (.getfield 100, 3) := by decide +kernel
theorem dX2_mayBegin_10 : decode cX2_mayBegin 10 = .ok (.if_icmp .le 19, 3) := by decide +kernel
theorem dX2_mayBegin_13 : decode cX2_mayBegin 13 = .ok (.aload_n 0, 1) := by decide +kernel
theorem dX2_mayBegin_14 : decode cX2_mayBegin 14 = .ok (.getfield 44, 3) := by decide +kernel
theorem dX2_mayBegin_17 : decode cX2_mayBegin 17 = .ok (.aload_n 1, 1) := by decide +kernel
theorem dX2_mayBegin_18 : decode cX2_mayBegin 18 = .ok (.getfield 60, 3) := by decide +kernel
theorem dX2_mayBegin_21 : decode cX2_mayBegin 21 = .ok (.iand, 1) := by decide +kernel
theorem dX2_mayBegin_22 : decode cX2_mayBegin 22 = .ok (.ifCond .ne 7, 3) := by decide +kernel
theorem dX2_mayBegin_25 : decode cX2_mayBegin 25 = .ok (.iconst 1, 1) := by decide +kernel
theorem dX2_mayBegin_26 : decode cX2_mayBegin 26 = .ok (.goto 4, 3) := by decide +kernel
theorem dX2_mayBegin_29 : decode cX2_mayBegin 29 = .ok (.iconst 0, 1) := by decide +kernel
theorem dX2_mayBegin_30 : decode cX2_mayBegin 30 = .ok (.istore_n 2, 1) := by decide +kernel
theorem dX2_mayBegin_31 : decode cX2_mayBegin 31 = .ok (.iload_n 2, 1) := by decide +kernel
theorem dX2_mayBegin_32 : decode cX2_mayBegin 32 = .ok (.ifCond .eq 24, 3) := by decide +kernel
theorem dX2_mayBegin_35 : decode cX2_mayBegin 35 = .ok (.aload_n 1, 1) := by decide +kernel
theorem dX2_mayBegin_36 : decode cX2_mayBegin 36 = .ok (.getfield 103, 3) := by decide +kernel
theorem dX2_mayBegin_39 : decode cX2_mayBegin 39 = .ok (.ifCond .ne 17, 3) := by decide +kernel
theorem dX2_mayBegin_42 : decode cX2_mayBegin 42 = .ok (.aload_n 1, 1) := by decide +kernel
theorem dX2_mayBegin_43 : decode cX2_mayBegin 43 = .ok (.getfield 81, 3) := by decide +kernel
theorem dX2_mayBegin_46 : decode cX2_mayBegin 46 = .ok (.getfield 85, 3) := by decide +kernel
theorem dX2_mayBegin_49 : decode cX2_mayBegin 49 = .ok (.ifCond .le 7, 3) := by decide +kernel
theorem dX2_mayBegin_52 : decode cX2_mayBegin 52 = .ok (.iconst 1, 1) := by decide +kernel
theorem dX2_mayBegin_53 : decode cX2_mayBegin 53 = .ok (.goto 4, 3) := by decide +kernel
theorem dX2_mayBegin_56 : decode cX2_mayBegin 56 = .ok (.iconst 0, 1) := by decide +kernel
theorem dX2_mayBegin_57 : decode cX2_mayBegin 57 = .ok (.ireturn, 1) := by decide +kernel
theorem dX2_kindToSend_0 : decode cX2_kindToSend 0 = .ok (.aload_n 1, 1) := by decide +kernel
theorem dX2_kindToSend_1 : decode cX2_kindToSend 1 = .ok (.getfield 106, 3) := by decide +kernel
theorem dX2_kindToSend_4 : decode cX2_kindToSend 4 = .ok (.getfield 110, 3) := by decide +kernel
theorem dX2_kindToSend_7 : decode cX2_kindToSend 7 = .ok (.ifCond .eq 11, 3) := by decide +kernel
theorem dX2_kindToSend_10 : decode cX2_kindToSend 10 = .ok (.aload_n 1, 1) := by decide +kernel
theorem dX2_kindToSend_11 : decode cX2_kindToSend 11 = .ok (.getfield 106, 3) := by decide +kernel
theorem dX2_kindToSend_14 : decode cX2_kindToSend 14 = .ok (.getfield 110, 3) := by decide +kernel
theorem dX2_kindToSend_17 : decode cX2_kindToSend 17 = .ok (.ireturn, 1) := by decide +kernel
theorem dX2_kindToSend_18 : decode cX2_kindToSend 18 = .ok (.aload_n 1, 1) := by decide +kernel
theorem dX2_kindToSend_19 : decode cX2_kindToSend 19 = .ok (.getfield 115, 3) := by decide +kernel
theorem dX2_kindToSend_22 : decode cX2_kindToSend 22 = .ok (.ifCond .eq 5, 3) := by decide +kernel
theorem dX2_kindToSend_25 : decode cX2_kindToSend 25 = .ok (.iconst 3, 1) := by decide +kernel
theorem dX2_kindToSend_26 : decode cX2_kindToSend 26 = .ok (.ireturn, 1) := by decide +kernel
theorem dX2_kindToSend_27 : decode cX2_kindToSend 27 = .ok (.aload_n 1, 1) := by decide +kernel
theorem dX2_kindToSend_28 : decode cX2_kindToSend 28 = .ok (.getfield 90, 3) := by decide +kernel
theorem dX2_kindToSend_31 : decode cX2_kindToSend 31 = .ok (.ifCond .gt 11, 3) := by decide +kernel
theorem dX2_kindToSend_34 : decode cX2_kindToSend 34 = .ok (.aload_n 0, 1) := by decide +kernel
theorem dX2_kindToSend_35 : decode cX2_kindToSend 35 = .ok (.aload_n 1, 1) := by decide +kernel
theorem dX2_kindToSend_36 : decode cX2_kindToSend 36 = .ok (.invokevirtual 119, 3) := by decide +kernel
theorem dX2_kindToSend_39 : decode cX2_kindToSend 39 = .ok (.ifCond .ne 5, 3) := by decide +kernel
theorem dX2_kindToSend_42 : decode cX2_kindToSend 42 = .ok (.iconst 0, 1) := by decide +kernel
theorem dX2_kindToSend_43 : decode cX2_kindToSend 43 = .ok (.ireturn, 1) := by decide +kernel
theorem dX2_kindToSend_44 : decode cX2_kindToSend 44 = .ok (.aload_n 0, 1) := by decide +kernel
theorem dX2_kindToSend_45 : decode cX2_kindToSend 45 = .ok (.aload_n 1, 1) := by decide +kernel
theorem dX2_kindToSend_46 : decode cX2_kindToSend 46 = .ok (.getfield 81, 3) := by decide +kernel
theorem dX2_kindToSend_49 : decode cX2_kindToSend 49 = .ok (.getfield 123, 3) := by decide +kernel
theorem dX2_kindToSend_52 : decode cX2_kindToSend 52 = .ok (.iconst 0, 1) := by decide +kernel
theorem dX2_kindToSend_53 : decode cX2_kindToSend 53 = .ok (.iaload, 1) := by decide +kernel
theorem dX2_kindToSend_54 : decode cX2_kindToSend 54 = .ok (.invokevirtual 126, 3) := by decide +kernel
theorem dX2_kindToSend_57 : decode cX2_kindToSend 57 = .ok (.ifCond .eq 7, 3) := by decide +kernel
theorem dX2_kindToSend_60 : decode cX2_kindToSend 60 = .ok (.iconst 1, 1) := by decide +kernel
theorem dX2_kindToSend_61 : decode cX2_kindToSend 61 = .ok (.goto 4, 3) := by decide +kernel
theorem dX2_kindToSend_64 : decode cX2_kindToSend 64 = .ok (.iconst 3, 1) := by decide +kernel
theorem dX2_kindToSend_65 : decode cX2_kindToSend 65 = .ok (.ireturn, 1) := by decide +kernel
theorem dX2_passSlots_0 : decode cX2_passSlots 0 = .ok (.iconst 0, 1) := by decide +kernel
theorem dX2_passSlots_1 : decode cX2_passSlots 1 = .ok (.istore_n 2, 1) := by decide +kernel
theorem dX2_passSlots_2 : decode cX2_passSlots 2 = .ok (.iload_n 2, 1) := by decide +kernel
theorem dX2_passSlots_3 : decode cX2_passSlots 3 = .ok (.iload_n 1, 1) := by decide +kernel
theorem dX2_passSlots_4 : decode cX2_passSlots 4 = .ok (.if_icmp .ge 53, 3) := by decide +kernel
theorem dX2_passSlots_7 : decode cX2_passSlots 7 = .ok (.aload_n 0, 1) := by decide +kernel
theorem dX2_passSlots_8 : decode cX2_passSlots 8 = .ok (.invokevirtual 130, 3) := by decide +kernel
theorem dX2_passSlots_11 : decode cX2_passSlots 11 = .ok (.istore_n 3, 1) := by decide +kernel
theorem dX2_passSlots_12 : decode cX2_passSlots 12 = .ok (.aload_n 0, 1) := by decide +kernel
theorem dX2_passSlots_13 : decode cX2_passSlots 13 = .ok (.dup, 1) := by decide +kernel
theorem dX2_passSlots_14 : decode cX2_passSlots 14 = .ok (.getfield 41, 3) := by decide +kernel
theorem dX2_passSlots_17 : decode cX2_passSlots 17 = .ok (.iconst 1, 1) := by decide +kernel
theorem dX2_passSlots_18 : decode cX2_passSlots 18 = .ok (.iadd, 1) := by decide +kernel
theorem dX2_passSlots_19 : decode cX2_passSlots 19 = .ok (.putfield 41, 3) := by decide +kernel
theorem dX2_passSlots_22 : decode cX2_passSlots 22 = .ok (.aload_n 0, 1) := by decide +kernel
theorem dX2_passSlots_23 : decode cX2_passSlots 23 = .ok (.iload_n 3, 1) := by decide +kernel
theorem dX2_passSlots_24 : decode cX2_passSlots 24 = .ok (.putfield 44, 3) := by decide +kernel
theorem dX2_passSlots_27 : decode cX2_passSlots 27 = .ok (.iconst 0, 1) := by decide +kernel
theorem dX2_passSlots_28 : decode cX2_passSlots 28 = .ok (.istore 4, 2) := by decide +kernel
theorem dX2_passSlots_30 : decode cX2_passSlots 30 = .ok (.iload 4, 2) := by decide +kernel
theorem dX2_passSlots_32 : decode cX2_passSlots 32 = .ok (.aload_n 0, 1) := by decide +kernel
theorem dX2_passSlots_33 : decode cX2_passSlots 33 = .ok (.getfield 22, 3) := by decide +kernel
theorem dX2_passSlots_36 : decode cX2_passSlots 36 = .ok (.if_icmp .ge 15, 3) := by decide +kernel
theorem dX2_passSlots_39 : decode cX2_passSlots 39 = .ok (.aload_n 0, 1) := by decide +kernel
theorem dX2_passSlots_40 : decode cX2_passSlots 40 = .ok (.iload 4, 2) := by decide +kernel
theorem dX2_passSlots_42 : decode cX2_passSlots 42 = .ok (.invokevirtual 134, 3) := by decide +kernel
theorem dX2_passSlots_45 : decode cX2_passSlots 45 = .ok (.iinc 4 1, 3) := by decide +kernel
theorem dX2_passSlots_48 : decode cX2_passSlots 48 = .ok (.goto (-18), 3) := by decide +kernel
theorem dX2_passSlots_51 : decode cX2_passSlots 51 = .ok (.iinc 2 1, 3) := by decide +kernel
theorem dX2_passSlots_54 : decode cX2_passSlots 54 = .ok (.goto (-52), 3) := by decide +kernel
theorem dX2_passSlots_57 : decode cX2_passSlots 57 = .ok (.return_, 1) := by decide +kernel
theorem dX2_sendAll_0 : decode cX2_sendAll 0 = .ok (.iconst 0, 1) := by decide +kernel
theorem dX2_sendAll_1 : decode cX2_sendAll 1 = .ok (.istore_n 1, 1) := by decide +kernel
theorem dX2_sendAll_2 : decode cX2_sendAll 2 = .ok (.iconst 0, 1) := by decide +kernel
theorem dX2_sendAll_3 : decode cX2_sendAll 3 = .ok (.istore_n 2, 1) := by decide +kernel
theorem dX2_sendAll_4 : decode cX2_sendAll 4 = .ok (.iload_n 2, 1) := by decide +kernel
theorem dX2_sendAll_5 : decode cX2_sendAll 5 = .ok (.aload_n 0, 1) := by decide +kernel
theorem dX2_sendAll_6 : decode cX2_sendAll 6 = .ok (.getfield 22, 3) := by decide +kernel
theorem dX2_sendAll_9 : decode cX2_sendAll 9 = .ok (.if_icmp .ge 82, 3) := by decide +kernel
theorem dX2_sendAll_12 : decode cX2_sendAll 12 = .ok (.aload_n 0, 1) := by decide +kernel
theorem dX2_sendAll_13 : decode cX2_sendAll 13 = .ok (.getfield 17, 3) := by decide +kernel
theorem dX2_sendAll_16 : decode cX2_sendAll 16 = .ok (.iload_n 2, 1) := by decide +kernel
theorem dX2_sendAll_17 : decode cX2_sendAll 17 = .ok (.aaload, 1) := by decide +kernel
theorem dX2_sendAll_18 : decode cX2_sendAll 18 = .ok (.astore_n 3, 1) := by decide +kernel
theorem dX2_sendAll_19 : decode cX2_sendAll 19 = .ok (.aload_n 0, 1) := by decide +kernel
theorem dX2_sendAll_20 : decode cX2_sendAll 20 = .ok (.aload_n 3, 1) := by decide +kernel
theorem dX2_sendAll_21 : decode cX2_sendAll 21 = .ok (.invokevirtual 137, 3) := by decide +kernel
theorem dX2_sendAll_24 : decode cX2_sendAll 24 = .ok (.istore 4, 2) := by decide +kernel
theorem dX2_sendAll_26 : decode cX2_sendAll 26 = .ok (.iload 4, 2) := by decide +kernel
theorem dX2_sendAll_28 : decode cX2_sendAll 28 = .ok (.ifCond .ne 22, 3) := by decide +kernel
theorem dX2_sendAll_31 : decode cX2_sendAll 31 = .ok (.aload_n 3, 1) := by decide +kernel
theorem dX2_sendAll_32 : decode cX2_sendAll 32 = .ok (.getfield 90, 3) := by decide +kernel
theorem dX2_sendAll_35 : decode cX2_sendAll 35 = .ok (.ifCond .le 15, 3) := by decide +kernel
theorem dX2_sendAll_38 : decode cX2_sendAll 38 = .ok (.aload_n 0, 1) := by decide +kernel
theorem dX2_sendAll_39 : decode cX2_sendAll 39 = .ok (.aload_n 3, 1) := by decide +kernel
theorem dX2_sendAll_40 : decode cX2_sendAll 40 = .ok (.invokevirtual 119, 3) := by decide +kernel
theorem dX2_sendAll_43 : decode cX2_sendAll 43 = .ok (.ifCond .eq 7, 3) := by decide +kernel
theorem dX2_sendAll_46 : decode cX2_sendAll 46 = .ok (.iconst 1, 1) := by decide +kernel
theorem dX2_sendAll_47 : decode cX2_sendAll 47 = .ok (.goto 4, 3) := by decide +kernel
theorem dX2_sendAll_50 : decode cX2_sendAll 50 = .ok (.iconst 0, 1) := by decide +kernel
theorem dX2_sendAll_51 : decode cX2_sendAll 51 = .ok (.istore 5, 2) := by decide +kernel
theorem dX2_sendAll_53 : decode cX2_sendAll 53 = .ok (.aload_n 3, 1) := by decide +kernel
theorem dX2_sendAll_54 : decode cX2_sendAll 54 = .ok (.iload 4, 2) := by decide +kernel
theorem dX2_sendAll_56 : decode cX2_sendAll 56 = .ok (.invokevirtual 141, 3) := by decide +kernel
theorem dX2_sendAll_59 : decode cX2_sendAll 59 = .ok (.iload 5, 2) := by decide +kernel
theorem dX2_sendAll_61 : decode cX2_sendAll 61 = .ok (.ifCond .eq 13, 3) := by decide +kernel
theorem dX2_sendAll_64 : decode cX2_sendAll 64 = .ok (.aload_n 3, 1) := by decide +kernel
theorem dX2_sendAll_65 : decode cX2_sendAll 65 = .ok (.dup, 1) := by decide +kernel
theorem dX2_sendAll_66 : decode cX2_sendAll 66 = .ok (.getfield 90, 3) := by decide +kernel
theorem dX2_sendAll_69 : decode cX2_sendAll 69 = .ok (.iconst 1, 1) := by decide +kernel
theorem dX2_sendAll_70 : decode cX2_sendAll 70 = .ok (.isub, 1) := by decide +kernel
theorem dX2_sendAll_71 : decode cX2_sendAll 71 = .ok (.putfield 90, 3) := by decide +kernel
theorem dX2_sendAll_74 : decode cX2_sendAll 74 = .ok (.iload 4, 2) := by decide +kernel
theorem dX2_sendAll_76 : decode cX2_sendAll 76 = .ok (.ifCond .eq 9, 3) := by decide +kernel
theorem dX2_sendAll_79 : decode cX2_sendAll 79 = .ok (.iload_n 1, 1) := by decide +kernel
theorem dX2_sendAll_80 : decode cX2_sendAll 80 = .ok (.iconst 1, 1) := by decide +kernel
theorem dX2_sendAll_81 : decode cX2_sendAll 81 = .ok (.iload_n 2, 1) := by decide +kernel
theorem dX2_sendAll_82 : decode cX2_sendAll 82 = .ok (.ishl, 1) := by decide +kernel
theorem dX2_sendAll_83 : decode cX2_sendAll 83 = .ok (.ior, 1) := by decide +kernel
theorem dX2_sendAll_84 : decode cX2_sendAll 84 = .ok (.istore_n 1, 1) := by decide +kernel
theorem dX2_sendAll_85 : decode cX2_sendAll 85 = .ok (.iinc 2 1, 3) := by decide +kernel
theorem dX2_sendAll_88 : decode cX2_sendAll 88 = .ok (.goto (-84), 3) := by decide +kernel
theorem dX2_sendAll_91 : decode cX2_sendAll 91 = .ok (.iload_n 1, 1) := by decide +kernel
theorem dX2_sendAll_92 : decode cX2_sendAll 92 = .ok (.ireturn, 1) := by decide +kernel
theorem dX2_listen_0 : decode cX2_listen 0 = .ok (.aload_n 0, 1) := by decide +kernel
theorem dX2_listen_1 : decode cX2_listen 1 = .ok (.getfield 17, 3) := by decide +kernel
theorem dX2_listen_4 : decode cX2_listen 4 = .ok (.iload_n 1, 1) := by decide +kernel
theorem dX2_listen_5 : decode cX2_listen 5 = .ok (.aaload, 1) := by decide +kernel
theorem dX2_listen_6 : decode cX2_listen 6 = .ok (.astore_n 2, 1) := by decide +kernel
theorem dX2_listen_7 : decode cX2_listen 7 = .ok (.aload_n 2, 1) := by decide +kernel
theorem dX2_listen_8 : decode cX2_listen 8 = .ok (.getfield 144, 3) := by decide +kernel
theorem dX2_listen_11 : decode cX2_listen 11 = .ok (.getfield 110, 3) := by decide +kernel
theorem dX2_listen_14 : decode cX2_listen 14 = .ok (.ifCond .eq 8, 3) := by decide +kernel
theorem dX2_listen_17 : decode cX2_listen 17 = .ok (.aload_n 2, 1) := by decide +kernel
theorem dX2_listen_18 : decode cX2_listen 18 = .ok (.invokevirtual 147, 3) := by decide +kernel
theorem dX2_listen_21 : decode cX2_listen 21 = .ok (.return_, 1) := by decide +kernel
theorem dX2_listen_22 : decode cX2_listen 22 = .ok (.aload_n 0, 1) := by decide +kernel
theorem dX2_listen_23 : decode cX2_listen 23 = .ok (.getfield 44, 3) := by decide +kernel
theorem dX2_listen_26 : decode cX2_listen 26 = .ok (.aload_n 2, 1) := by decide +kernel
theorem dX2_listen_27 : decode cX2_listen 27 = .ok (.getfield 60, 3) := by decide +kernel
theorem dX2_listen_30 : decode cX2_listen 30 = .ok (.iand, 1) := by decide +kernel
theorem dX2_listen_31 : decode cX2_listen 31 = .ok (.istore_n 3, 1) := by decide +kernel
theorem dX2_listen_32 : decode cX2_listen 32 = .ok (.iconst 0, 1) := by decide +kernel
theorem dX2_listen_33 : decode cX2_listen 33 = .ok (.istore 4, 2) := by decide +kernel
theorem dX2_listen_35 : decode cX2_listen 35 = .ok (.iload_n 3, 1) := by decide +kernel
theorem dX2_listen_36 : decode cX2_listen 36 = .ok (.invokestatic 150, 3) := by decide +kernel
theorem dX2_listen_39 : decode cX2_listen 39 = .ok (.iconst 1, 1) := by decide +kernel
theorem dX2_listen_40 : decode cX2_listen 40 = .ok (.if_icmp .le 16, 3) := by decide +kernel
theorem dX2_listen_43 : decode cX2_listen 43 = .ok (.aload_n 2, 1) := by decide +kernel
theorem dX2_listen_44 : decode cX2_listen 44 = .ok (.dup, 1) := by decide +kernel
theorem dX2_listen_45 : decode cX2_listen 45 = .ok (.getfield 155, 3) := by decide +kernel
theorem dX2_listen_48 : decode cX2_listen 48 = .ok (.iconst 1, 1) := by decide +kernel
theorem dX2_listen_49 : decode cX2_listen 49 = .ok (.iadd, 1) := by decide +kernel
theorem dX2_listen_50 : decode cX2_listen 50 = .ok (.putfield 155, 3) := by decide +kernel
theorem dX2_listen_53 : decode cX2_listen 53 = .ok (.goto 19, 3) := by decide +kernel
theorem dX2_listen_56 : decode cX2_listen 56 = .ok (.iload_n 3, 1) := by decide +kernel
theorem dX2_listen_57 : decode cX2_listen 57 = .ok (.ifCond .eq 15, 3) := by decide +kernel
theorem dX2_listen_60 : decode cX2_listen 60 = .ok (.aload_n 0, 1) := by decide +kernel
theorem dX2_listen_61 : decode cX2_listen 61 = .ok (.iload_n 1, 1) := by decide +kernel
theorem dX2_listen_62 : decode cX2_listen 62 = .ok (.aload_n 0, 1) := by decide +kernel
theorem dX2_listen_63 : decode cX2_listen 63 = .ok (.iload_n 3, 1) := by decide +kernel
theorem dX2_listen_64 : decode cX2_listen 64 = .ok (.invokevirtual 158, 3) := by decide +kernel
theorem dX2_listen_67 : decode cX2_listen 67 = .ok (.invokevirtual 161, 3) := by decide +kernel
theorem dX2_listen_70 : decode cX2_listen 70 = .ok (.istore 4, 2) := by decide +kernel
theorem dX2_listen_72 : decode cX2_listen 72 = .ok (.iload 4, 2) := by decide +kernel
theorem dX2_listen_74 : decode cX2_listen 74 = .ok (.ifCond .eq 24, 3) := by decide +kernel
theorem dX2_listen_77 : decode cX2_listen 77 = .ok (.aload_n 0, 1) := by decide +kernel
theorem dX2_listen_78 : decode cX2_listen 78 = .ok (.aload_n 2, 1) := by decide +kernel
theorem dX2_listen_79 : decode cX2_listen 79 = .ok (.invokevirtual 164, 3) := by decide +kernel
theorem dX2_listen_82 : decode cX2_listen 82 = .ok (.aload_n 2, 1) := by decide +kernel
theorem dX2_listen_83 : decode cX2_listen 83 = .ok (.aload_n 0, 1) := by decide +kernel
theorem dX2_listen_84 : decode cX2_listen 84 = .ok (.getfield 26, 3) := by decide +kernel
theorem dX2_listen_87 : decode cX2_listen 87 = .ok (.invokevirtual 167, 3) := by decide +kernel
theorem dX2_listen_90 : decode cX2_listen 90 = .ok (.aload_n 0, 1) := by decide +kernel
theorem dX2_listen_91 : decode cX2_listen 91 = .ok (.iload_n 1, 1) := by decide +kernel
theorem dX2_listen_92 : decode cX2_listen 92 = .ok (.invokevirtual 77, 3) := by decide +kernel
theorem dX2_listen_95 : decode cX2_listen 95 = .ok (.goto 31, 3) := by decide +kernel
theorem dX2_listen_98 : decode cX2_listen 98 = .ok (.aload_n 2, 1) := by decide +kernel
theorem dX2_listen_99 : decode cX2_listen 99 = .ok (.getfield 103, 3) := by decide +kernel
theorem dX2_listen_102 : decode cX2_listen 102 = .ok (.ifCond .eq 24, 3) := by decide +kernel
theorem dX2_listen_105 : decode cX2_listen 105 = .ok (.aload_n 2, 1) := by decide +kernel
theorem dX2_listen_106 : decode cX2_listen 106 = .ok (.aload_n 0, 1) := by decide +kernel
theorem dX2_listen_107 : decode cX2_listen 107 = .ok (.getfield 26, 3) := by decide +kernel
theorem dX2_listen_110 : decode cX2_listen 110 = .ok (.aload_n 0, 1) := by decide +kernel
theorem dX2_listen_111 : decode cX2_listen 111 = .ok (.getfield 29, 3) := by decide +kernel
theorem dX2_listen_114 : decode cX2_listen 114 = .ok (.aload_n 0, 1) := by decide +kernel
theorem dX2_listen_115 : decode cX2_listen 115 = .ok (.getfield 35, 3) := by decide +kernel
theorem dX2_listen_118 : decode cX2_listen 118 = .ok (.invokevirtual 170, 3) := by decide +kernel
theorem dX2_listen_121 : decode cX2_listen 121 = .ok (.aload_n 0, 1) := by decide +kernel
theorem dX2_listen_122 : decode cX2_listen 122 = .ok (.iload_n 1, 1) := by decide +kernel
theorem dX2_listen_123 : decode cX2_listen 123 = .ok (.invokevirtual 77, 3) := by decide +kernel
theorem dX2_listen_126 : decode cX2_listen 126 = .ok (.return_, 1) := by decide +kernel
theorem dX2_lowestOf_0 : decode cX2_lowestOf 0 = .ok (.iconst 0, 1) := by decide +kernel
theorem dX2_lowestOf_1 : decode cX2_lowestOf 1 = .ok (.istore_n 2, 1) := by decide +kernel
theorem dX2_lowestOf_2 : decode cX2_lowestOf 2 = .ok (.iload_n 2, 1) := by decide +kernel
theorem dX2_lowestOf_3 : decode cX2_lowestOf 3 = .ok (.iconst 5, 1) := by decide +kernel
theorem dX2_lowestOf_4 : decode cX2_lowestOf 4 = .ok (.if_icmp .ge 17, 3) := by decide +kernel
theorem dX2_lowestOf_7 : decode cX2_lowestOf 7 = .ok (.iload_n 1, 1) := by decide +kernel
theorem dX2_lowestOf_8 : decode cX2_lowestOf 8 = .ok (.iload_n 2, 1) := by decide +kernel
theorem dX2_lowestOf_9 : decode cX2_lowestOf 9 = .ok (.ishr, 1) := by decide +kernel
theorem dX2_lowestOf_10 : decode cX2_lowestOf 10 = .ok (.iconst 1, 1) := by decide +kernel
theorem dX2_lowestOf_11 : decode cX2_lowestOf 11 = .ok (.iand, 1) := by decide +kernel
theorem dX2_lowestOf_12 : decode cX2_lowestOf 12 = .ok (.ifCond .ne 9, 3) := by decide +kernel
theorem dX2_lowestOf_15 : decode cX2_lowestOf 15 = .ok (.iinc 2 1, 3) := by decide +kernel
theorem dX2_lowestOf_18 : decode cX2_lowestOf 18 = .ok (.goto (-16), 3) := by decide +kernel
theorem dX2_lowestOf_21 : decode cX2_lowestOf 21 = .ok (.iload_n 2, 1) := by decide +kernel
theorem dX2_lowestOf_22 : decode cX2_lowestOf 22 = .ok (.ireturn, 1) := by decide +kernel
theorem dX2_getFrom_0 : decode cX2_getFrom 0 = .ok (.aload_n 0, 1) := by decide +kernel
theorem dX2_getFrom_1 : decode cX2_getFrom 1 = .ok (.getfield 17, 3) := by decide +kernel
theorem dX2_getFrom_4 : decode cX2_getFrom 4 = .ok (.iload_n 2, 1) := by decide +kernel
theorem dX2_getFrom_5 : decode cX2_getFrom 5 = .ok (.aaload, 1) := by decide +kernel
theorem dX2_getFrom_6 : decode cX2_getFrom 6 = .ok (.getfield 144, 3) := by decide +kernel
theorem dX2_getFrom_9 : decode cX2_getFrom 9 = .ok (.astore_n 3, 1) := by decide +kernel
theorem dX2_getFrom_10 : decode cX2_getFrom 10 = .ok (.aload_n 3, 1) := by decide +kernel
theorem dX2_getFrom_11 : decode cX2_getFrom 11 = .ok (.getfield 174, 3) := by decide +kernel
theorem dX2_getFrom_14 : decode cX2_getFrom 14 = .ok (.iload_n 1, 1) := by decide +kernel
theorem dX2_getFrom_15 : decode cX2_getFrom 15 = .ok (.if_icmp .ne 19, 3) := by decide +kernel
theorem dX2_getFrom_18 : decode cX2_getFrom 18 = .ok (.aload_n 0, 1) := by decide +kernel
theorem dX2_getFrom_19 : decode cX2_getFrom 19 = .ok (.getfield 17, 3) := by decide +kernel
theorem dX2_getFrom_22 : decode cX2_getFrom 22 = .ok (.iload_n 1, 1) := by decide +kernel
theorem dX2_getFrom_23 : decode cX2_getFrom 23 = .ok (.aaload, 1) := by decide +kernel
theorem dX2_getFrom_24 : decode cX2_getFrom 24 = .ok (.aload_n 0, 1) := by decide +kernel
theorem dX2_getFrom_25 : decode cX2_getFrom 25 = .ok (.getfield 41, 3) := by decide +kernel
theorem dX2_getFrom_28 : decode cX2_getFrom 28 = .ok (.iload_n 2, 1) := by decide +kernel
theorem dX2_getFrom_29 : decode cX2_getFrom 29 = .ok (.aload_n 3, 1) := by decide +kernel
theorem dX2_getFrom_30 : decode cX2_getFrom 30 = .ok (.invokevirtual 177, 3) := by decide +kernel
theorem dX2_getFrom_33 : decode cX2_getFrom 33 = .ok (.ireturn, 1) := by decide +kernel
theorem dX2_getFrom_34 : decode cX2_getFrom 34 = .ok (.aload_n 0, 1) := by decide +kernel
theorem dX2_getFrom_35 : decode cX2_getFrom 35 = .ok (.getfield 17, 3) := by decide +kernel
theorem dX2_getFrom_38 : decode cX2_getFrom 38 = .ok (.iload_n 1, 1) := by decide +kernel
theorem dX2_getFrom_39 : decode cX2_getFrom 39 = .ok (.aaload, 1) := by decide +kernel
theorem dX2_getFrom_40 : decode cX2_getFrom 40 = .ok (.aload_n 0, 1) := by decide +kernel
theorem dX2_getFrom_41 : decode cX2_getFrom 41 = .ok (.getfield 41, 3) := by decide +kernel
theorem dX2_getFrom_44 : decode cX2_getFrom 44 = .ok (.iload_n 2, 1) := by decide +kernel
theorem dX2_getFrom_45 : decode cX2_getFrom 45 = .ok (.aload_n 3, 1) := by decide +kernel
theorem dX2_getFrom_46 : decode cX2_getFrom 46 = .ok (.invokevirtual 181, 3) := by decide +kernel
theorem dX2_getFrom_49 : decode cX2_getFrom 49 = .ok (.iconst 0, 1) := by decide +kernel
theorem dX2_getFrom_50 : decode cX2_getFrom 50 = .ok (.ireturn, 1) := by decide +kernel
theorem dX2_tallySent_0 : decode cX2_tallySent 0 = .ok (.aload_n 1, 1) := by decide +kernel
theorem dX2_tallySent_1 : decode cX2_tallySent 1 = .ok (.getfield 185, 3) := by decide +kernel
theorem dX2_tallySent_4 : decode cX2_tallySent 4 = .ok (.iconst 1, 1) := by decide +kernel
theorem dX2_tallySent_5 : decode cX2_tallySent 5 = .ok (.iadd, 1) := by decide +kernel
theorem dX2_tallySent_6 : decode cX2_tallySent 6 = .ok (.istore_n 2, 1) := by decide +kernel
theorem dX2_tallySent_7 : decode cX2_tallySent 7 = .ok (.iload_n 2, 1) := by decide +kernel
theorem dX2_tallySent_8 : decode cX2_tallySent 8 = .ok (.bipush 9, 2) := by decide +kernel
theorem dX2_tallySent_10 : decode cX2_tallySent 10 = .ok (.if_icmp .gt 13, 3) := by decide +kernel
theorem dX2_tallySent_13 : decode cX2_tallySent 13 = .ok (.aload_n 0, 1) := by decide +kernel
theorem dX2_tallySent_14 : decode cX2_tallySent 14 = .ok (.getfield 9, 3) := by decide +kernel
theorem dX2_tallySent_17 : decode cX2_tallySent 17 = .ok (.iload_n 2, 1) := by decide +kernel
theorem dX2_tallySent_18 : decode cX2_tallySent 18 = .ok (.dup2, 1) := by decide +kernel
theorem dX2_tallySent_19 : decode cX2_tallySent 19 = .ok (.iaload, 1) := by decide +kernel
theorem dX2_tallySent_20 : decode cX2_tallySent 20 = .ok (.iconst 1, 1) := by decide +kernel
theorem dX2_tallySent_21 : decode cX2_tallySent 21 = .ok (.iadd, 1) := by decide +kernel
theorem dX2_tallySent_22 : decode cX2_tallySent 22 = .ok (.iastore, 1) := by decide +kernel
theorem dX2_tallySent_23 : decode cX2_tallySent 23 = .ok (.aload_n 1, 1) := by decide +kernel
theorem dX2_tallySent_24 : decode cX2_tallySent 24 = .ok (.dup, 1) := by decide +kernel
theorem dX2_tallySent_25 : decode cX2_tallySent 25 = .ok (.getfield 188, 3) := by decide +kernel
theorem dX2_tallySent_28 : decode cX2_tallySent 28 = .ok (.iconst 1, 1) := by decide +kernel
theorem dX2_tallySent_29 : decode cX2_tallySent 29 = .ok (.iadd, 1) := by decide +kernel
theorem dX2_tallySent_30 : decode cX2_tallySent 30 = .ok (.putfield 188, 3) := by decide +kernel
theorem dX2_tallySent_33 : decode cX2_tallySent 33 = .ok (.return_, 1) := by decide +kernel
theorem dX3_init_0 : decode cX3_init 0 = .ok (.aload_n 0, 1) := by decide +kernel
theorem dX3_init_1 : decode cX3_init 1 = .ok (.invokespecial 3, 3) := by decide +kernel
theorem dX3_init_4 : decode cX3_init 4 = .ok (.aload_n 0, 1) := by decide +kernel
theorem dX3_init_5 : decode cX3_init 5 = .ok (.iconst 3, 1) := by decide +kernel
theorem dX3_init_6 : decode cX3_init 6 = .ok (.newarray .int, 2) := by decide +kernel
theorem dX3_init_8 : decode cX3_init 8 = .ok (.putfield 11, 3) := by decide +kernel
theorem dX3_init_11 : decode cX3_init 11 = .ok (.aload_n 0, 1) := by decide +kernel
theorem dX3_init_12 : decode cX3_init 12 = .ok (.aload_n 1, 1) := by decide +kernel
theorem dX3_init_13 : decode cX3_init 13 = .ok (.putfield 15, 3) := by decide +kernel
theorem dX3_init_16 : decode cX3_init 16 = .ok (.aload_n 0, 1) := by decide +kernel
theorem dX3_init_17 : decode cX3_init 17 = .ok (.aload_n 2, 1) := by decide +kernel
theorem dX3_init_18 : decode cX3_init 18 = .ok (.putfield 19, 3) := by decide +kernel
theorem dX3_init_21 : decode cX3_init 21 = .ok (.return_, 1) := by decide +kernel
theorem dX3_firstFault_0 : decode cX3_firstFault 0 = .ok (.aload_n 0, 1) := by decide +kernel
theorem dX3_firstFault_1 : decode cX3_firstFault 1 = .ok (.getfield 19, 3) := by decide +kernel
theorem dX3_firstFault_4 : decode cX3_firstFault 4 = .ok (.invokevirtual 23, 3) := by decide +kernel
theorem dX3_firstFault_7 : decode cX3_firstFault 7 = .ok (.aload_n 0, 1) := by decide +kernel
theorem dX3_firstFault_8 : decode cX3_firstFault 8 = .ok (.iload_n 1, 1) := by decide +kernel
theorem dX3_firstFault_9 : decode cX3_firstFault 9 = .ok (.sipush 200, 3) := by decide +kernel
theorem dX3_firstFault_12 : decode cX3_firstFault 12 = .ok (.invokestatic 28, 3) := by decide +kernel
theorem dX3_firstFault_15 : decode cX3_firstFault 15 = .ok (.putfield 34, 3) := by decide +kernel
theorem dX3_firstFault_18 : decode cX3_firstFault 18 = .ok (.aload_n 0, 1) := by decide +kernel
theorem dX3_firstFault_19 : decode cX3_firstFault 19 = .ok (.iconst 0, 1) := by decide +kernel
theorem dX3_firstFault_20 : decode cX3_firstFault 20 = .ok (.putfield 38, 3) := by decide +kernel
theorem dX3_firstFault_23 : decode cX3_firstFault 23 = .ok (.iconst 0, 1) := by decide +kernel
theorem dX3_firstFault_24 : decode cX3_firstFault 24 = .ok (.istore_n 2, 1) := by decide +kernel
theorem dX3_firstFault_25 : decode cX3_firstFault 25 = .ok (.iload_n 2, 1) := by decide +kernel
theorem dX3_firstFault_26 : decode cX3_firstFault 26 = .ok (.sipush 200, 3) := by decide +kernel
theorem dX3_firstFault_29 : decode cX3_firstFault 29 = .ok (.if_icmp .ge 34, 3) := by decide +kernel
theorem dX3_firstFault_32 : decode cX3_firstFault 32 = .ok (.aload_n 0, 1) := by decide +kernel
theorem dX3_firstFault_33 : decode cX3_firstFault 33 = .ok (.getfield 38, 3) := by decide +kernel
theorem dX3_firstFault_36 : decode cX3_firstFault 36 = .ok (.aload_n 0, 1) := by decide +kernel
theorem dX3_firstFault_37 : decode cX3_firstFault 37 = .ok (.getfield 34, 3) := by decide +kernel
theorem dX3_firstFault_40 : decode cX3_firstFault 40 = .ok (.if_icmp .ge 23, 3) := by decide +kernel
theorem dX3_firstFault_43 : decode cX3_firstFault 43 = .ok (.aload_n 0, 1) := by decide +kernel
theorem dX3_firstFault_44 : decode cX3_firstFault 44 = .ok (.getfield 38, 3) := by decide +kernel
theorem dX3_firstFault_47 : decode cX3_firstFault 47 = .ok (.istore_n 3, 1) := by decide +kernel
theorem dX3_firstFault_48 : decode cX3_firstFault 48 = .ok (.aload_n 0, 1) := by decide +kernel
theorem dX3_firstFault_49 : decode cX3_firstFault 49 = .ok (.invokevirtual 41, 3) := by decide +kernel
theorem dX3_firstFault_52 : decode cX3_firstFault 52 = .ok (.ifCond .ne 5, 3) := by decide +kernel
theorem dX3_firstFault_55 : decode cX3_firstFault 55 = .ok (.iload_n 3, 1) := by decide +kernel
theorem dX3_firstFault_56 : decode cX3_firstFault 56 = .ok (.ireturn, 1) := by decide +kernel
theorem dX3_firstFault_57 : decode cX3_firstFault 57 = .ok (.iinc 2 1, 3) := by decide +kernel
theorem dX3_firstFault_60 : decode cX3_firstFault 60 = .ok (.goto (-35), 3) := by decide +kernel
theorem dX3_firstFault_63 : decode cX3_firstFault 63 = .ok (.bipush (-4), 2) := by decide +kernel
theorem dX3_firstFault_65 : decode cX3_firstFault 65 = .ok (.ireturn, 1) := by decide +kernel
theorem dX3_readItem_0 : decode cX3_readItem 0 = .ok (.aload_n 0, 1) := by decide +kernel
theorem dX3_readItem_1 : decode cX3_readItem 1 = .ok (.getfield 15, 3) := by decide +kernel
theorem dX3_readItem_4 : decode cX3_readItem 4 = .ok (.aload_n 0, 1) := by decide +kernel
theorem dX3_readItem_5 : decode cX3_readItem 5 = .ok (.getfield 38, 3) := by decide +kernel
theorem dX3_readItem_8 : decode cX3_readItem 8 = .ok (.caload, 1) := by decide +kernel
theorem dX3_readItem_9 : decode cX3_readItem 9 = .ok (.istore_n 1, 1) := by decide +kernel
theorem dX3_readItem_10 : decode cX3_readItem 10 = .ok (.aload_n 0, 1) := by decide +kernel
theorem dX3_readItem_11 : decode cX3_readItem 11 = .ok (.dup, 1) := by decide +kernel
theorem dX3_readItem_12 : decode cX3_readItem 12 = .ok (.getfield 38, 3) := by decide +kernel
theorem dX3_readItem_15 : decode cX3_readItem 15 = .ok (.iconst 1, 1) := by decide +kernel
theorem dX3_readItem_16 : decode cX3_readItem 16 = .ok (.iadd, 1) := by decide +kernel
theorem dX3_readItem_17 : decode cX3_readItem 17 = .ok (.putfield 38, 3) := by decide +kernel
theorem dX3_readItem_20 : decode cX3_readItem 20 = .ok (.aload_n 0, 1) := by decide +kernel
theorem dX3_readItem_21 : decode cX3_readItem 21 = .ok (.iload_n 1, 1) := by decide +kernel
theorem dX3_readItem_22 : decode cX3_readItem 22 = .ok (.invokevirtual 45, 3) := by decide +kernel
theorem dX3_readItem_25 : decode cX3_readItem 25 = .ok (.istore_n 2, 1) := by decide +kernel
theorem dX3_readItem_26 : decode cX3_readItem 26 = .ok (.iload_n 2, 1) := by decide +kernel
theorem dX3_readItem_27 : decode cX3_readItem 27 = .ok (.ifCond .eq 11, 3) := by decide +kernel
theorem dX3_readItem_30 : decode cX3_readItem 30 = .ok (.aload_n 0, 1) := by decide +kernel
theorem dX3_readItem_31 : decode cX3_readItem 31 = .ok (.iload_n 2, 1) := by decide +kernel
theorem dX3_readItem_32 : decode cX3_readItem 32 = .ok (.invokevirtual 49, 3) := by decide +kernel
theorem dX3_readItem_35 : decode cX3_readItem 35 = .ok (.ifCond .ne 5, 3) := by decide +kernel
theorem dX3_readItem_38 : decode cX3_readItem 38 = .ok (.iconst 0, 1) := by decide +kernel
theorem dX3_readItem_39 : decode cX3_readItem 39 = .ok (.ireturn, 1) := by decide +kernel
theorem dX3_readItem_40 : decode cX3_readItem 40 = .ok (.iload_n 1, 1) := by decide +kernel
theorem dX3_readItem_41 : decode cX3_readItem 41 = .ok (.bipush 110, 2) := by decide +kernel
theorem dX3_readItem_43 : decode cX3_readItem 43 = .ok (.if_icmp .ne 14, 3) := by decide +kernel
theorem dX3_readItem_46 : decode cX3_readItem 46 = .ok (.aload_n 0, 1) := by decide +kernel
theorem dX3_readItem_47 : decode cX3_readItem 47 = .ok (.aload_n 0, 1) := by decide +kernel
theorem dX3_readItem_48 : decode cX3_readItem 48 = .ok (.getfield 11, 3) := by decide +kernel
theorem dX3_readItem_51 : decode cX3_readItem 51 = .ok (.iconst 0, 1) := by decide +kernel
theorem dX3_readItem_52 : decode cX3_readItem 52 = .ok (.iaload, 1) := by decide +kernel
theorem dX3_readItem_53 : decode cX3_readItem 53 = .ok (.invokevirtual 53, 3) := by decide +kernel
theorem dX3_readItem_56 : decode cX3_readItem 56 = .ok (.ireturn, 1) := by decide +kernel
end
section
theorem dX3_readItem_57 : decode cX3_readItem 57 = .ok (.aload_n 0, 1) := by decide +kernel
theorem dX3_readItem_58 : decode cX3_readItem 58 = .ok (.getfield 19, 3) := by decide +kernel
theorem dX3_readItem_61 : decode cX3_readItem 61 = .ok (.getfield 56, 3) := by decide +kernel
theorem dX3_readItem_64 : decode cX3_readItem 64 = .ok (.ifCond .le 33, 3) := by decide +kernel
theorem dX3_readItem_67 : decode cX3_readItem 67 = .ok (.aload_n 0, 1) := by decide +kernel
theorem dX3_readItem_68 : decode cX3_readItem 68 = .ok (.iload_n 1, 1) := by decide +kernel
theorem dX3_readItem_69 : decode cX3_readItem 69 = .ok (.aload_n 0, 1) := by decide +kernel
theorem dX3_readItem_70 : decode cX3_readItem 70 = .ok (.getfield 11, 3) := by decide +kernel
theorem dX3_readItem_73 : decode cX3_readItem 73 = .ok (.iconst 0, 1) := by decide +kernel
theorem dX3_readItem_74 : decode cX3_readItem 74 = .ok (.iaload, 1) := by decide +kernel
theorem dX3_readItem_75 : decode cX3_readItem 75 = .ok (.aload_n 0, 1) := by decide +kernel
theorem dX3_readItem_76 : decode cX3_readItem 76 = .ok (.getfield 11, 3) := by decide +kernel
theorem dX3_readItem_79 : decode cX3_readItem 79 = .ok (.iconst 1, 1) := by decide +kernel
theorem dX3_readItem_80 : decode cX3_readItem 80 = .ok (.iaload, 1) := by decide +kernel
theorem dX3_readItem_81 : decode cX3_readItem 81 = .ok (.aload_n 0, 1) := by decide +kernel
theorem dX3_readItem_82 : decode cX3_readItem 82 = .ok (.getfield 11, 3) := by decide +kernel
theorem dX3_readItem_85 : decode cX3_readItem 85 = .ok (.iconst 2, 1) := by decide +kernel
theorem dX3_readItem_86 : decode cX3_readItem 86 = .ok (.iaload, 1) := by decide +kernel
theorem dX3_readItem_87 : decode cX3_readItem 87 = .ok (.invokevirtual 59, 3) := by decide +kernel
theorem dX3_readItem_90 : decode cX3_readItem 90 = .ok (.ifCond .eq 7, 3) := by decide +kernel
theorem dX3_readItem_93 : decode cX3_readItem 93 = .ok (.iconst 1, 1) := by decide +kernel
theorem dX3_readItem_94 : decode cX3_readItem 94 = .ok (.goto 4, 3) := by decide +kernel
theorem dX3_readItem_97 : decode cX3_readItem 97 = .ok (.iconst 0, 1) := by decide +kernel
theorem dX3_readItem_98 : decode cX3_readItem 98 = .ok (.ireturn, 1) := by decide +kernel
theorem dX3_numbersBehind_0 : decode cX3_numbersBehind 0 = .ok (.iload_n 1, 1) := by decide +kernel
theorem dX3_numbersBehind_1 : decode cX3_numbersBehind 1 = .ok (.tableswitch 97 104 122 #[93, 97, 97, 97, 95, 97, 91, 97, 97, 97, 97, 97, 93, 97, 97, 93, 97, 97, 91], 91) := by decide +kernel
theorem dX3_numbersBehind_92 : decode cX3_numbersBehind 92 = .ok (.iconst 1, 1) := by decide +kernel
theorem dX3_numbersBehind_93 : decode cX3_numbersBehind 93 = .ok (.ireturn, 1) := by decide +kernel
theorem dX3_numbersBehind_94 : decode cX3_numbersBehind 94 = .ok (.iconst 2, 1) := by decide +kernel
theorem dX3_numbersBehind_95 : decode cX3_numbersBehind 95 = .ok (.ireturn, 1) := by decide +kernel
theorem dX3_numbersBehind_96 : decode cX3_numbersBehind 96 = .ok (.iconst 3, 1) := by decide +kernel
theorem dX3_numbersBehind_97 : decode cX3_numbersBehind 97 = .ok (.ireturn, 1) := by decide +kernel
theorem dX3_numbersBehind_98 : decode cX3_numbersBehind 98 = .ok (.iconst 0, 1) := by decide +kernel
theorem dX3_numbersBehind_99 : decode cX3_numbersBehind 99 = .ok (.ireturn, 1) := by decide +kernel
theorem dX3_readNumbers_0 : decode cX3_readNumbers 0 = .ok (.iconst 0, 1) := by decide +kernel
theorem dX3_readNumbers_1 : decode cX3_readNumbers 1 = .ok (.istore_n 2, 1) := by decide +kernel
theorem dX3_readNumbers_2 : decode cX3_readNumbers 2 = .ok (.iload_n 2, 1) := by decide +kernel
theorem dX3_readNumbers_3 : decode cX3_readNumbers 3 = .ok (.iload_n 1, 1) := by decide +kernel
theorem dX3_readNumbers_4 : decode cX3_readNumbers 4 = .ok (.if_icmp .ge 47, 3) := by decide +kernel
theorem dX3_readNumbers_7 : decode cX3_readNumbers 7 = .ok (.iload_n 2, 1) := by decide +kernel
theorem dX3_readNumbers_8 : decode cX3_readNumbers 8 = .ok (.iconst 3, 1) := by decide +kernel
theorem dX3_readNumbers_9 : decode cX3_readNumbers 9 = .ok (.if_icmp .ge 42, 3) := by decide +kernel
theorem dX3_readNumbers_12 : decode cX3_readNumbers 12 = .ok (.iload_n 2, 1) := by decide +kernel
theorem dX3_readNumbers_13 : decode cX3_readNumbers 13 = .ok (.iload_n 1, 1) := by decide +kernel
theorem dX3_readNumbers_14 : decode cX3_readNumbers 14 = .ok (.iconst 1, 1) := by decide +kernel
theorem dX3_readNumbers_15 : decode cX3_readNumbers 15 = .ok (.isub, 1) := by decide +kernel
theorem dX3_readNumbers_16 : decode cX3_readNumbers 16 = .ok (.if_icmp .ne 8, 3) := by decide +kernel
theorem dX3_readNumbers_19 : decode cX3_readNumbers 19 = .ok (.bipush 59, 2) := by decide +kernel
theorem dX3_readNumbers_21 : decode cX3_readNumbers 21 = .ok (.goto 5, 3) := by decide +kernel
theorem dX3_readNumbers_24 : decode cX3_readNumbers 24 = .ok (.bipush 44, 2) := by decide +kernel
theorem dX3_readNumbers_26 : decode cX3_readNumbers 26 = .ok (.istore_n 3, 1) := by decide +kernel
theorem dX3_readNumbers_27 : decode cX3_readNumbers 27 = .ok (.aload_n 0, 1) := by decide +kernel
theorem dX3_readNumbers_28 : decode cX3_readNumbers 28 = .ok (.iload_n 2, 1) := by decide +kernel
theorem dX3_readNumbers_29 : decode cX3_readNumbers 29 = .ok (.invokevirtual 63, 3) := by decide +kernel
theorem dX3_readNumbers_32 : decode cX3_readNumbers 32 = .ok (.ifCond .eq 11, 3) := by decide +kernel
theorem dX3_readNumbers_35 : decode cX3_readNumbers 35 = .ok (.aload_n 0, 1) := by decide +kernel
theorem dX3_readNumbers_36 : decode cX3_readNumbers 36 = .ok (.iload_n 3, 1) := by decide +kernel
theorem dX3_readNumbers_37 : decode cX3_readNumbers 37 = .ok (.invokevirtual 66, 3) := by decide +kernel
theorem dX3_readNumbers_40 : decode cX3_readNumbers 40 = .ok (.ifCond .ne 5, 3) := by decide +kernel
theorem dX3_readNumbers_43 : decode cX3_readNumbers 43 = .ok (.iconst 0, 1) := by decide +kernel
theorem dX3_readNumbers_44 : decode cX3_readNumbers 44 = .ok (.ireturn, 1) := by decide +kernel
theorem dX3_readNumbers_45 : decode cX3_readNumbers 45 = .ok (.iinc 2 1, 3) := by decide +kernel
theorem dX3_readNumbers_48 : decode cX3_readNumbers 48 = .ok (.goto (-46), 3) := by decide +kernel
theorem dX3_readNumbers_51 : decode cX3_readNumbers 51 = .ok (.iconst 1, 1) := by decide +kernel
theorem dX3_readNumbers_52 : decode cX3_readNumbers 52 = .ok (.ireturn, 1) := by decide +kernel
theorem dX3_readNumber_0 : decode cX3_readNumber 0 = .ok (.iconst 0, 1) := by decide +kernel
theorem dX3_readNumber_1 : decode cX3_readNumber 1 = .ok (.istore_n 2, 1) := by decide +kernel
theorem dX3_readNumber_2 : decode cX3_readNumber 2 = .ok (.iconst 0, 1) := by decide +kernel
theorem dX3_readNumber_3 : decode cX3_readNumber 3 = .ok (.istore_n 3, 1) := by decide +kernel
theorem dX3_readNumber_4 : decode cX3_readNumber 4 = .ok (.iload_n 3, 1) := by decide +kernel
theorem dX3_readNumber_5 : decode cX3_readNumber 5 = .ok (.iconst 4, 1) := by decide +kernel
theorem dX3_readNumber_6 : decode cX3_readNumber 6 = .ok (.if_icmp .ge 76, 3) := by decide +kernel
theorem dX3_readNumber_9 : decode cX3_readNumber 9 = .ok (.aload_n 0, 1) := by decide +kernel
theorem dX3_readNumber_10 : decode cX3_readNumber 10 = .ok (.getfield 38, 3) := by decide +kernel
theorem dX3_readNumber_13 : decode cX3_readNumber 13 = .ok (.aload_n 0, 1) := by decide +kernel
theorem dX3_readNumber_14 : decode cX3_readNumber 14 = .ok (.getfield 34, 3) := by decide +kernel
theorem dX3_readNumber_17 : decode cX3_readNumber 17 = .ok (.if_icmp .ge 65, 3) := by decide +kernel
theorem dX3_readNumber_20 : decode cX3_readNumber 20 = .ok (.aload_n 0, 1) := by decide +kernel
theorem dX3_readNumber_21 : decode cX3_readNumber 21 = .ok (.getfield 15, 3) := by decide +kernel
theorem dX3_readNumber_24 : decode cX3_readNumber 24 = .ok (.aload_n 0, 1) := by decide +kernel
theorem dX3_readNumber_25 : decode cX3_readNumber 25 = .ok (.getfield 38, 3) := by decide +kernel
theorem dX3_readNumber_28 : decode cX3_readNumber 28 = .ok (.caload, 1) := by decide +kernel
theorem dX3_readNumber_29 : decode cX3_readNumber 29 = .ok (.bipush 48, 2) := by decide +kernel
theorem dX3_readNumber_31 : decode cX3_readNumber 31 = .ok (.if_icmp .lt 51, 3) := by decide +kernel
theorem dX3_readNumber_34 : decode cX3_readNumber 34 = .ok (.aload_n 0, 1) := by decide +kernel
theorem dX3_readNumber_35 : decode cX3_readNumber 35 = .ok (.getfield 15, 3) := by decide +kernel
theorem dX3_readNumber_38 : decode cX3_readNumber 38 = .ok (.aload_n 0, 1) := by decide +kernel
theorem dX3_readNumber_39 : decode cX3_readNumber 39 = .ok (.getfield 38, 3) := by decide +kernel
theorem dX3_readNumber_42 : decode cX3_readNumber 42 = .ok (.caload, 1) := by decide +kernel
theorem dX3_readNumber_43 : decode cX3_readNumber 43 = .ok (.bipush 57, 2) := by decide +kernel
theorem dX3_readNumber_45 : decode cX3_readNumber 45 = .ok (.if_icmp .gt 37, 3) := by decide +kernel
theorem dX3_readNumber_48 : decode cX3_readNumber 48 = .ok (.bipush 10, 2) := by decide +kernel
theorem dX3_readNumber_50 : decode cX3_readNumber 50 = .ok (.iload_n 2, 1) := by decide +kernel
theorem dX3_readNumber_51 : decode cX3_readNumber 51 = .ok (.imul, 1) := by decide +kernel
theorem dX3_readNumber_52 : decode cX3_readNumber 52 = .ok (.aload_n 0, 1) := by decide +kernel
theorem dX3_readNumber_53 : decode cX3_readNumber 53 = .ok (.getfield 15, 3) := by decide +kernel
theorem dX3_readNumber_56 : decode cX3_readNumber 56 = .ok (.aload_n 0, 1) := by decide +kernel
theorem dX3_readNumber_57 : decode cX3_readNumber 57 = .ok (.getfield 38, 3) := by decide +kernel
theorem dX3_readNumber_60 : decode cX3_readNumber 60 = .ok (.caload, 1) := by decide +kernel
theorem dX3_readNumber_61 : decode cX3_readNumber 61 = .ok (.bipush 48, 2) := by decide +kernel
theorem dX3_readNumber_63 : decode cX3_readNumber 63 = .ok (.isub, 1) := by decide +kernel
theorem dX3_readNumber_64 : decode cX3_readNumber 64 = .ok (.iadd, 1) := by decide +kernel
theorem dX3_readNumber_65 : decode cX3_readNumber 65 = .ok (.istore_n 2, 1) := by decide +kernel
theorem dX3_readNumber_66 : decode cX3_readNumber 66 = .ok (.iinc 3 1, 3) := by decide +kernel
theorem dX3_readNumber_69 : decode cX3_readNumber 69 = .ok (.aload_n 0, 1) := by decide +kernel
theorem dX3_readNumber_70 : decode cX3_readNumber 70 = .ok (.dup, 1) := by decide +kernel
theorem dX3_readNumber_71 : decode cX3_readNumber 71 = .ok (.getfield 38, 3) := by decide +kernel
theorem dX3_readNumber_74 : decode cX3_readNumber 74 = .ok (.iconst 1, 1) := by decide +kernel
theorem dX3_readNumber_75 : decode cX3_readNumber 75 = .ok (.iadd, 1) := by decide +kernel
theorem dX3_readNumber_76 : decode cX3_readNumber 76 = .ok (.putfield 38, 3) := by decide +kernel
theorem dX3_readNumber_79 : decode cX3_readNumber 79 = .ok (.goto (-75), 3) := by decide +kernel
theorem dX3_readNumber_82 : decode cX3_readNumber 82 = .ok (.aload_n 0, 1) := by decide +kernel
theorem dX3_readNumber_83 : decode cX3_readNumber 83 = .ok (.getfield 11, 3) := by decide +kernel
theorem dX3_readNumber_86 : decode cX3_readNumber 86 = .ok (.iload_n 1, 1) := by decide +kernel
theorem dX3_readNumber_87 : decode cX3_readNumber 87 = .ok (.iload_n 2, 1) := by decide +kernel
theorem dX3_readNumber_88 : decode cX3_readNumber 88 = .ok (.iastore, 1) := by decide +kernel
theorem dX3_readNumber_89 : decode cX3_readNumber 89 = .ok (.iload_n 3, 1) := by decide +kernel
theorem dX3_readNumber_90 : decode cX3_readNumber 90 = .ok (.ifCond .le 7, 3) := by decide +kernel
theorem dX3_readNumber_93 : decode cX3_readNumber 93 = .ok (.iconst 1, 1) := by decide +kernel
theorem dX3_readNumber_94 : decode cX3_readNumber 94 = .ok (.goto 4, 3) := by decide +kernel
theorem dX3_readNumber_97 : decode cX3_readNumber 97 = .ok (.iconst 0, 1) := by decide +kernel
theorem dX3_readNumber_98 : decode cX3_readNumber 98 = .ok (.ireturn, 1) := by decide +kernel
theorem dX3_readSign_0 : decode cX3_readSign 0 = .ok (.aload_n 0, 1) := by decide +kernel
theorem dX3_readSign_1 : decode cX3_readSign 1 = .ok (.getfield 38, 3) := by decide +kernel
theorem dX3_readSign_4 : decode cX3_readSign 4 = .ok (.aload_n 0, 1) := by decide +kernel
theorem dX3_readSign_5 : decode cX3_readSign 5 = .ok (.getfield 34, 3) := by decide +kernel
theorem dX3_readSign_8 : decode cX3_readSign 8 = .ok (.if_icmp .ge 16, 3) := by decide +kernel
theorem dX3_readSign_11 : decode cX3_readSign 11 = .ok (.aload_n 0, 1) := by decide +kernel
theorem dX3_readSign_12 : decode cX3_readSign 12 = .ok (.getfield 15, 3) := by decide +kernel
theorem dX3_readSign_15 : decode cX3_readSign 15 = .ok (.aload_n 0, 1) := by decide +kernel
theorem dX3_readSign_16 : decode cX3_readSign 16 = .ok (.getfield 38, 3) := by decide +kernel
theorem dX3_readSign_19 : decode cX3_readSign 19 = .ok (.caload, 1) := by decide +kernel
theorem dX3_readSign_20 : decode cX3_readSign 20 = .ok (.iload_n 1, 1) := by decide +kernel
theorem dX3_readSign_21 : decode cX3_readSign 21 = .ok (.if_icmp .eq 5, 3) := by decide +kernel
theorem dX3_readSign_24 : decode cX3_readSign 24 = .ok (.iconst 0, 1) := by decide +kernel
theorem dX3_readSign_25 : decode cX3_readSign 25 = .ok (.ireturn, 1) := by decide +kernel
theorem dX3_readSign_26 : decode cX3_readSign 26 = .ok (.aload_n 0, 1) := by decide +kernel
theorem dX3_readSign_27 : decode cX3_readSign 27 = .ok (.dup, 1) := by decide +kernel
theorem dX3_readSign_28 : decode cX3_readSign 28 = .ok (.getfield 38, 3) := by decide +kernel
theorem dX3_readSign_31 : decode cX3_readSign 31 = .ok (.iconst 1, 1) := by decide +kernel
theorem dX3_readSign_32 : decode cX3_readSign 32 = .ok (.iadd, 1) := by decide +kernel
theorem dX3_readSign_33 : decode cX3_readSign 33 = .ok (.putfield 38, 3) := by decide +kernel
theorem dX3_readSign_36 : decode cX3_readSign 36 = .ok (.iconst 1, 1) := by decide +kernel
theorem dX3_readSign_37 : decode cX3_readSign 37 = .ok (.ireturn, 1) := by decide +kernel
theorem dX3_setStations_0 : decode cX3_setStations 0 = .ok (.aload_n 0, 1) := by decide +kernel
theorem dX3_setStations_1 : decode cX3_setStations 1 = .ok (.getfield 19, 3) := by decide +kernel
theorem dX3_setStations_4 : decode cX3_setStations 4 = .ok (.getfield 56, 3) := by decide +kernel
theorem dX3_setStations_7 : decode cX3_setStations 7 = .ok (.ifCond .ne 14, 3) := by decide +kernel
theorem dX3_setStations_10 : decode cX3_setStations 10 = .ok (.iload_n 1, 1) := by decide +kernel
theorem dX3_setStations_11 : decode cX3_setStations 11 = .ok (.iconst 2, 1) := by decide +kernel
theorem dX3_setStations_12 : decode cX3_setStations 12 = .ok (.if_icmp .lt 9, 3) := by decide +kernel
theorem dX3_setStations_15 : decode cX3_setStations 15 = .ok (.iload_n 1, 1) := by decide +kernel
theorem dX3_setStations_16 : decode cX3_setStations 16 = .ok (.bipush 6, 2) := by decide +kernel
theorem dX3_setStations_18 : decode cX3_setStations 18 = .ok (.if_icmp .le 5, 3) := by decide +kernel
theorem dX3_setStations_21 : decode cX3_setStations 21 = .ok (.iconst 0, 1) := by decide +kernel
theorem dX3_setStations_22 : decode cX3_setStations 22 = .ok (.ireturn, 1) := by decide +kernel
theorem dX3_setStations_23 : decode cX3_setStations 23 = .ok (.aload_n 0, 1) := by decide +kernel
theorem dX3_setStations_24 : decode cX3_setStations 24 = .ok (.getfield 19, 3) := by decide +kernel
theorem dX3_setStations_27 : decode cX3_setStations 27 = .ok (.iload_n 1, 1) := by decide +kernel
theorem dX3_setStations_28 : decode cX3_setStations 28 = .ok (.putfield 56, 3) := by decide +kernel
theorem dX3_setStations_31 : decode cX3_setStations 31 = .ok (.iconst 1, 1) := by decide +kernel
theorem dX3_setStations_32 : decode cX3_setStations 32 = .ok (.ireturn, 1) := by decide +kernel
theorem dX3_applyItem_0 : decode cX3_applyItem 0 = .ok (.iload_n 1, 1) := by decide +kernel
theorem dX3_applyItem_1 : decode cX3_applyItem 1 = .ok (.lookupswitch 73 #[(104, 43), (108, 50), (116, 66), (119, 59)], 43) := by decide +kernel
theorem dX3_applyItem_44 : decode cX3_applyItem 44 = .ok (.aload_n 0, 1) := by decide +kernel
theorem dX3_applyItem_45 : decode cX3_applyItem 45 = .ok (.iload_n 2, 1) := by decide +kernel
theorem dX3_applyItem_46 : decode cX3_applyItem 46 = .ok (.iload_n 3, 1) := by decide +kernel
theorem dX3_applyItem_47 : decode cX3_applyItem 47 = .ok (.invokevirtual 70, 3) := by decide +kernel
theorem dX3_applyItem_50 : decode cX3_applyItem 50 = .ok (.ireturn, 1) := by decide +kernel
theorem dX3_applyItem_51 : decode cX3_applyItem 51 = .ok (.aload_n 0, 1) := by decide +kernel
theorem dX3_applyItem_52 : decode cX3_applyItem 52 = .ok (.iload_n 2, 1) := by decide +kernel
theorem dX3_applyItem_53 : decode cX3_applyItem 53 = .ok (.iload_n 3, 1) := by decide +kernel
theorem dX3_applyItem_54 : decode cX3_applyItem 54 = .ok (.iload 4, 2) := by decide +kernel
theorem dX3_applyItem_56 : decode cX3_applyItem 56 = .ok (.invokevirtual 74, 3) := by decide +kernel
theorem dX3_applyItem_59 : decode cX3_applyItem 59 = .ok (.ireturn, 1) := by decide +kernel
theorem dX3_applyItem_60 : decode cX3_applyItem 60 = .ok (.aload_n 0, 1) := by decide +kernel
theorem dX3_applyItem_61 : decode cX3_applyItem 61 = .ok (.iload_n 2, 1) := by decide +kernel
theorem dX3_applyItem_62 : decode cX3_applyItem 62 = .ok (.iload_n 3, 1) := by decide +kernel
theorem dX3_applyItem_63 : decode cX3_applyItem 63 = .ok (.invokevirtual 78, 3) := by decide +kernel
theorem dX3_applyItem_66 : decode cX3_applyItem 66 = .ok (.ireturn, 1) := by decide +kernel
theorem dX3_applyItem_67 : decode cX3_applyItem 67 = .ok (.aload_n 0, 1) := by decide +kernel
theorem dX3_applyItem_68 : decode cX3_applyItem 68 = .ok (.iload_n 2, 1) := by decide +kernel
theorem dX3_applyItem_69 : decode cX3_applyItem 69 = .ok (.iload_n 3, 1) := by decide +kernel
theorem dX3_applyItem_70 : decode cX3_applyItem 70 = .ok (.invokevirtual 81, 3) := by decide +kernel
theorem dX3_applyItem_73 : decode cX3_applyItem 73 = .ok (.ireturn, 1) := by decide +kernel
theorem dX3_applyItem_74 : decode cX3_applyItem 74 = .ok (.aload_n 0, 1) := by decide +kernel
theorem dX3_applyItem_75 : decode cX3_applyItem 75 = .ok (.iload_n 2, 1) := by decide +kernel
theorem dX3_applyItem_76 : decode cX3_applyItem 76 = .ok (.invokevirtual 84, 3) := by decide +kernel
theorem dX3_applyItem_79 : decode cX3_applyItem 79 = .ok (.ireturn, 1) := by decide +kernel
theorem dX3_arePair_0 : decode cX3_arePair 0 = .ok (.iload_n 1, 1) := by decide +kernel
theorem dX3_arePair_1 : decode cX3_arePair 1 = .ok (.ifCond .lt 38, 3) := by decide +kernel
theorem dX3_arePair_4 : decode cX3_arePair 4 = .ok (.iload_n 1, 1) := by decide +kernel
theorem dX3_arePair_5 : decode cX3_arePair 5 = .ok (.aload_n 0, 1) := by decide +kernel
theorem dX3_arePair_6 : decode cX3_arePair 6 = .ok (.getfield 19, 3) := by decide +kernel
theorem dX3_arePair_9 : decode cX3_arePair 9 = .ok (.getfield 56, 3) := by decide +kernel
theorem dX3_arePair_12 : decode cX3_arePair 12 = .ok (.if_icmp .ge 27, 3) := by decide +kernel
theorem dX3_arePair_15 : decode cX3_arePair 15 = .ok (.iload_n 2, 1) := by decide +kernel
theorem dX3_arePair_16 : decode cX3_arePair 16 = .ok (.ifCond .lt 23, 3) := by decide +kernel
theorem dX3_arePair_19 : decode cX3_arePair 19 = .ok (.iload_n 2, 1) := by decide +kernel
theorem dX3_arePair_20 : decode cX3_arePair 20 = .ok (.aload_n 0, 1) := by decide +kernel
theorem dX3_arePair_21 : decode cX3_arePair 21 = .ok (.getfield 19, 3) := by decide +kernel
theorem dX3_arePair_24 : decode cX3_arePair 24 = .ok (.getfield 56, 3) := by decide +kernel
theorem dX3_arePair_27 : decode cX3_arePair 27 = .ok (.if_icmp .ge 12, 3) := by decide +kernel
theorem dX3_arePair_30 : decode cX3_arePair 30 = .ok (.iload_n 1, 1) := by decide +kernel
theorem dX3_arePair_31 : decode cX3_arePair 31 = .ok (.iload_n 2, 1) := by decide +kernel
theorem dX3_arePair_32 : decode cX3_arePair 32 = .ok (.if_icmp .eq 7, 3) := by decide +kernel
theorem dX3_arePair_35 : decode cX3_arePair 35 = .ok (.iconst 1, 1) := by decide +kernel
theorem dX3_arePair_36 : decode cX3_arePair 36 = .ok (.goto 4, 3) := by decide +kernel
theorem dX3_arePair_39 : decode cX3_arePair 39 = .ok (.iconst 0, 1) := by decide +kernel
theorem dX3_arePair_40 : decode cX3_arePair 40 = .ok (.ireturn, 1) := by decide +kernel
theorem dX3_applyHear_0 : decode cX3_applyHear 0 = .ok (.aload_n 0, 1) := by decide +kernel
theorem dX3_applyHear_1 : decode cX3_applyHear 1 = .ok (.iload_n 1, 1) := by decide +kernel
theorem dX3_applyHear_2 : decode cX3_applyHear 2 = .ok (.iload_n 2, 1) := by decide +kernel
theorem dX3_applyHear_3 : decode cX3_applyHear 3 = .ok (.invokevirtual 87, 3) := by decide +kernel
theorem dX3_applyHear_6 : decode cX3_applyHear 6 = .ok (.ifCond .ne 5, 3) := by decide +kernel
theorem dX3_applyHear_9 : decode cX3_applyHear 9 = .ok (.iconst 0, 1) := by decide +kernel
theorem dX3_applyHear_10 : decode cX3_applyHear 10 = .ok (.ireturn, 1) := by decide +kernel
theorem dX3_applyHear_11 : decode cX3_applyHear 11 = .ok (.aload_n 0, 1) := by decide +kernel
theorem dX3_applyHear_12 : decode cX3_applyHear 12 = .ok (.getfield 19, 3) := by decide +kernel
theorem dX3_applyHear_15 : decode cX3_applyHear 15 = .ok (.iload_n 1, 1) := by decide +kernel
theorem dX3_applyHear_16 : decode cX3_applyHear 16 = .ok (.iload_n 2, 1) := by decide +kernel
theorem dX3_applyHear_17 : decode cX3_applyHear 17 = .ok (.iconst 1, 1) := by decide +kernel
theorem dX3_applyHear_18 : decode cX3_applyHear 18 = .ok (.invokevirtual 90, 3) := by decide +kernel
theorem dX3_applyHear_21 : decode cX3_applyHear 21 = .ok (.iconst 1, 1) := by decide +kernel
theorem dX3_applyHear_22 : decode cX3_applyHear 22 = .ok (.ireturn, 1) := by decide +kernel
theorem dX3_applyLetter_0 : decode cX3_applyLetter 0 = .ok (.aload_n 0, 1) := by decide +kernel
theorem dX3_applyLetter_1 : decode cX3_applyLetter 1 = .ok (.iload_n 1, 1) := by decide +kernel
theorem dX3_applyLetter_2 : decode cX3_applyLetter 2 = .ok (.iload_n 2, 1) := by decide +kernel
theorem dX3_applyLetter_3 : decode cX3_applyLetter 3 = .ok (.invokevirtual 87, 3) := by decide +kernel
theorem dX3_applyLetter_6 : decode cX3_applyLetter 6 = .ok (.ifCond .eq 26, 3) := by decide +kernel
theorem dX3_applyLetter_9 : decode cX3_applyLetter 9 = .ok (.iload_n 3, 1) := by decide +kernel
theorem dX3_applyLetter_10 : decode cX3_applyLetter 10 = .ok (.iconst 1, 1) := by decide +kernel
theorem dX3_applyLetter_11 : decode cX3_applyLetter 11 = .ok (.if_icmp .lt 21, 3) := by decide +kernel
theorem dX3_applyLetter_14 : decode cX3_applyLetter 14 = .ok (.iload_n 3, 1) := by decide +kernel
theorem dX3_applyLetter_15 : decode cX3_applyLetter 15 = .ok (.bipush 9, 2) := by decide +kernel
theorem dX3_applyLetter_17 : decode cX3_applyLetter 17 = .ok (.if_icmp .gt 15, 3) := by decide +kernel
theorem dX3_applyLetter_20 : decode cX3_applyLetter 20 = .ok (.aload_n 0, 1) := by decide +kernel
theorem dX3_applyLetter_21 : decode cX3_applyLetter 21 = .ok (.getfield 19, 3) := by decide +kernel
theorem dX3_applyLetter_24 : decode cX3_applyLetter 24 = .ok (.iload_n 1, 1) := by decide +kernel
theorem dX3_applyLetter_25 : decode cX3_applyLetter 25 = .ok (.iload_n 2, 1) := by decide +kernel
theorem dX3_applyLetter_26 : decode cX3_applyLetter 26 = .ok (.invokevirtual 94, 3) := by decide +kernel
theorem dX3_applyLetter_29 : decode cX3_applyLetter 29 = .ok (.ifCond .ne 5, 3) := by decide +kernel
theorem dX3_applyLetter_32 : decode cX3_applyLetter 32 = .ok (.iconst 0, 1) := by decide +kernel
theorem dX3_applyLetter_33 : decode cX3_applyLetter 33 = .ok (.ireturn, 1) := by decide +kernel
theorem dX3_applyLetter_34 : decode cX3_applyLetter 34 = .ok (.aload_n 0, 1) := by decide +kernel
theorem dX3_applyLetter_35 : decode cX3_applyLetter 35 = .ok (.getfield 19, 3) := by decide +kernel
theorem dX3_applyLetter_38 : decode cX3_applyLetter 38 = .ok (.getfield 97, 3) := by decide +kernel
theorem dX3_applyLetter_41 : decode cX3_applyLetter 41 = .ok (.iload_n 1, 1) := by decide +kernel
theorem dX3_applyLetter_42 : decode cX3_applyLetter 42 = .ok (.aaload, 1) := by decide +kernel
theorem dX3_applyLetter_43 : decode cX3_applyLetter 43 = .ok (.getfield 101, 3) := by decide +kernel
theorem dX3_applyLetter_46 : decode cX3_applyLetter 46 = .ok (.astore 4, 2) := by decide +kernel
theorem dX3_applyLetter_48 : decode cX3_applyLetter 48 = .ok (.aload 4, 2) := by decide +kernel
theorem dX3_applyLetter_50 : decode cX3_applyLetter 50 = .ok (.getfield 107, 3) := by decide +kernel
theorem dX3_applyLetter_53 : decode cX3_applyLetter 53 = .ok (.bipush 6, 2) := by decide +kernel
theorem dX3_applyLetter_55 : decode cX3_applyLetter 55 = .ok (.if_icmp .lt 5, 3) := by decide +kernel
theorem dX3_applyLetter_58 : decode cX3_applyLetter 58 = .ok (.iconst 0, 1) := by decide +kernel
theorem dX3_applyLetter_59 : decode cX3_applyLetter 59 = .ok (.ireturn, 1) := by decide +kernel
theorem dX3_applyLetter_60 : decode cX3_applyLetter 60 = .ok (.aload 4, 2) := by decide +kernel
theorem dX3_applyLetter_62 : decode cX3_applyLetter 62 = .ok (.iload_n 2, 1) := by decide +kernel
theorem dX3_applyLetter_63 : decode cX3_applyLetter 63 = .ok (.iload_n 3, 1) := by decide +kernel
theorem dX3_applyLetter_64 : decode cX3_applyLetter 64 = .ok (.invokevirtual 112, 3) := by decide +kernel
theorem dX3_applyLetter_67 : decode cX3_applyLetter 67 = .ok (.iconst 1, 1) := by decide +kernel
theorem dX3_applyLetter_68 : decode cX3_applyLetter 68 = .ok (.ireturn, 1) := by decide +kernel
theorem dX3_applyWindows_0 : decode cX3_applyWindows 0 = .ok (.iload_n 1, 1) := by decide +kernel
theorem dX3_applyWindows_1 : decode cX3_applyWindows 1 = .ok (.iconst 1, 1) := by decide +kernel
theorem dX3_applyWindows_2 : decode cX3_applyWindows 2 = .ok (.if_icmp .lt 20, 3) := by decide +kernel
theorem dX3_applyWindows_5 : decode cX3_applyWindows 5 = .ok (.iload_n 1, 1) := by decide +kernel
theorem dX3_applyWindows_6 : decode cX3_applyWindows 6 = .ok (.bipush 16, 2) := by decide +kernel
theorem dX3_applyWindows_8 : decode cX3_applyWindows 8 = .ok (.if_icmp .gt 14, 3) := by decide +kernel
theorem dX3_applyWindows_11 : decode cX3_applyWindows 11 = .ok (.iload_n 2, 1) := by decide +kernel
theorem dX3_applyWindows_12 : decode cX3_applyWindows 12 = .ok (.iload_n 1, 1) := by decide +kernel
theorem dX3_applyWindows_13 : decode cX3_applyWindows 13 = .ok (.if_icmp .lt 9, 3) := by decide +kernel
theorem dX3_applyWindows_16 : decode cX3_applyWindows 16 = .ok (.iload_n 2, 1) := by decide +kernel
theorem dX3_applyWindows_17 : decode cX3_applyWindows 17 = .ok (.bipush 64, 2) := by decide +kernel
theorem dX3_applyWindows_19 : decode cX3_applyWindows 19 = .ok (.if_icmp .le 5, 3) := by decide +kernel
theorem dX3_applyWindows_22 : decode cX3_applyWindows 22 = .ok (.iconst 0, 1) := by decide +kernel
theorem dX3_applyWindows_23 : decode cX3_applyWindows 23 = .ok (.ireturn, 1) := by decide +kernel
theorem dX3_applyWindows_24 : decode cX3_applyWindows 24 = .ok (.aload_n 0, 1) := by decide +kernel
theorem dX3_applyWindows_25 : decode cX3_applyWindows 25 = .ok (.getfield 19, 3) := by decide +kernel
theorem dX3_applyWindows_28 : decode cX3_applyWindows 28 = .ok (.iload_n 1, 1) := by decide +kernel
theorem dX3_applyWindows_29 : decode cX3_applyWindows 29 = .ok (.putfield 116, 3) := by decide +kernel
theorem dX3_applyWindows_32 : decode cX3_applyWindows 32 = .ok (.aload_n 0, 1) := by decide +kernel
theorem dX3_applyWindows_33 : decode cX3_applyWindows 33 = .ok (.getfield 19, 3) := by decide +kernel
theorem dX3_applyWindows_36 : decode cX3_applyWindows 36 = .ok (.iload_n 2, 1) := by decide +kernel
theorem dX3_applyWindows_37 : decode cX3_applyWindows 37 = .ok (.putfield 119, 3) := by decide +kernel
theorem dX3_applyWindows_40 : decode cX3_applyWindows 40 = .ok (.iconst 1, 1) := by decide +kernel
theorem dX3_applyWindows_41 : decode cX3_applyWindows 41 = .ok (.ireturn, 1) := by decide +kernel
theorem dX3_applyTries_0 : decode cX3_applyTries 0 = .ok (.iload_n 1, 1) := by decide +kernel
theorem dX3_applyTries_1 : decode cX3_applyTries 1 = .ok (.iconst 1, 1) := by decide +kernel
theorem dX3_applyTries_2 : decode cX3_applyTries 2 = .ok (.if_icmp .lt 20, 3) := by decide +kernel
theorem dX3_applyTries_5 : decode cX3_applyTries 5 = .ok (.iload_n 1, 1) := by decide +kernel
theorem dX3_applyTries_6 : decode cX3_applyTries 6 = .ok (.bipush 10, 2) := by decide +kernel
theorem dX3_applyTries_8 : decode cX3_applyTries 8 = .ok (.if_icmp .gt 14, 3) := by decide +kernel
theorem dX3_applyTries_11 : decode cX3_applyTries 11 = .ok (.iload_n 2, 1) := by decide +kernel
theorem dX3_applyTries_12 : decode cX3_applyTries 12 = .ok (.iconst 1, 1) := by decide +kernel
theorem dX3_applyTries_13 : decode cX3_applyTries 13 = .ok (.if_icmp .lt 9, 3) := by decide +kernel
theorem dX3_applyTries_16 : decode cX3_applyTries 16 = .ok (.iload_n 2, 1) := by decide +kernel
theorem dX3_applyTries_17 : decode cX3_applyTries 17 = .ok (.bipush 7, 2) := by decide +kernel
theorem dX3_applyTries_19 : decode cX3_applyTries 19 = .ok (.if_icmp .le 5, 3) := by decide +kernel
theorem dX3_applyTries_22 : decode cX3_applyTries 22 = .ok (.iconst 0, 1) := by decide +kernel
theorem dX3_applyTries_23 : decode cX3_applyTries 23 = .ok (.ireturn, 1) := by decide +kernel
theorem dX3_applyTries_24 : decode cX3_applyTries 24 = .ok (.aload_n 0, 1) := by decide +kernel
theorem dX3_applyTries_25 : decode cX3_applyTries 25 = .ok (.getfield 19, 3) := by decide +kernel
theorem dX3_applyTries_28 : decode cX3_applyTries 28 = .ok (.iload_n 1, 1) := by decide +kernel
theorem dX3_applyTries_29 : decode cX3_applyTries 29 = .ok (.putfield 122, 3) := by decide +kernel
theorem dX3_applyTries_32 : decode cX3_applyTries 32 = .ok (.aload_n 0, 1) := by decide +kernel
theorem dX3_applyTries_33 : decode cX3_applyTries 33 = .ok (.getfield 19, 3) := by decide +kernel
theorem dX3_applyTries_36 : decode cX3_applyTries 36 = .ok (.iload_n 2, 1) := by decide +kernel
theorem dX3_applyTries_37 : decode cX3_applyTries 37 = .ok (.putfield 125, 3) := by decide +kernel
theorem dX3_applyTries_40 : decode cX3_applyTries 40 = .ok (.iconst 1, 1) := by decide +kernel
theorem dX3_applyTries_41 : decode cX3_applyTries 41 = .ok (.ireturn, 1) := by decide +kernel
theorem dX3_applySeed_0 : decode cX3_applySeed 0 = .ok (.iload_n 1, 1) := by decide +kernel
theorem dX3_applySeed_1 : decode cX3_applySeed 1 = .ok (.ifCond .lt 10, 3) := by decide +kernel
theorem dX3_applySeed_4 : decode cX3_applySeed 4 = .ok (.iload_n 1, 1) := by decide +kernel
theorem dX3_applySeed_5 : decode cX3_applySeed 5 = .ok (.sipush 9999, 3) := by decide +kernel
theorem dX3_applySeed_8 : decode cX3_applySeed 8 = .ok (.if_icmp .le 5, 3) := by decide +kernel
theorem dX3_applySeed_11 : decode cX3_applySeed 11 = .ok (.iconst 0, 1) := by decide +kernel
theorem dX3_applySeed_12 : decode cX3_applySeed 12 = .ok (.ireturn, 1) := by decide +kernel
theorem dX3_applySeed_13 : decode cX3_applySeed 13 = .ok (.aload_n 0, 1) := by decide +kernel
theorem dX3_applySeed_14 : decode cX3_applySeed 14 = .ok (.getfield 19, 3) := by decide +kernel
theorem dX3_applySeed_17 : decode cX3_applySeed 17 = .ok (.iload_n 1, 1) := by decide +kernel
theorem dX3_applySeed_18 : decode cX3_applySeed 18 = .ok (.putfield 128, 3) := by decide +kernel
theorem dX3_applySeed_21 : decode cX3_applySeed 21 = .ok (.iconst 1, 1) := by decide +kernel
theorem dX3_applySeed_22 : decode cX3_applySeed 22 = .ok (.ireturn, 1) := by decide +kernel
theorem dX4_init_0 : decode cX4_init 0 = .ok (.aload_n 0, 1) := by decide +kernel
theorem dX4_init_1 : decode cX4_init 1 = .ok (.invokespecial 3, 3) := by decide +kernel
theorem dX4_init_4 : decode cX4_init 4 = .ok (.return_, 1) := by decide +kernel
theorem dX4_put_0 : decode cX4_put 0 = .ok (.aload_n 0, 1) := by decide +kernel
theorem dX4_put_1 : decode cX4_put 1 = .ok (.iload_n 1, 1) := by decide +kernel
theorem dX4_put_2 : decode cX4_put 2 = .ok (.putfield 9, 3) := by decide +kernel
theorem dX4_put_5 : decode cX4_put 5 = .ok (.aload_n 0, 1) := by decide +kernel
theorem dX4_put_6 : decode cX4_put 6 = .ok (.iload_n 2, 1) := by decide +kernel
theorem dX4_put_7 : decode cX4_put 7 = .ok (.putfield 15, 3) := by decide +kernel
theorem dX4_put_10 : decode cX4_put 10 = .ok (.aload_n 0, 1) := by decide +kernel
theorem dX4_put_11 : decode cX4_put 11 = .ok (.iload_n 3, 1) := by decide +kernel
theorem dX4_put_12 : decode cX4_put 12 = .ok (.putfield 18, 3) := by decide +kernel
theorem dX4_put_15 : decode cX4_put 15 = .ok (.aload_n 0, 1) := by decide +kernel
theorem dX4_put_16 : decode cX4_put 16 = .ok (.iload 4, 2) := by decide +kernel
theorem dX4_put_18 : decode cX4_put 18 = .ok (.putfield 21, 3) := by decide +kernel
theorem dX4_put_21 : decode cX4_put 21 = .ok (.return_, 1) := by decide +kernel
theorem dX4_clear_0 : decode cX4_clear 0 = .ok (.aload_n 0, 1) := by decide +kernel
theorem dX4_clear_1 : decode cX4_clear 1 = .ok (.iconst 0, 1) := by decide +kernel
theorem dX4_clear_2 : decode cX4_clear 2 = .ok (.iconst 0, 1) := by decide +kernel
theorem dX4_clear_3 : decode cX4_clear 3 = .ok (.iconst 0, 1) := by decide +kernel
theorem dX4_clear_4 : decode cX4_clear 4 = .ok (.iconst 0, 1) := by decide +kernel
theorem dX4_clear_5 : decode cX4_clear 5 = .ok (.invokevirtual 24, 3) := by decide +kernel
theorem dX4_clear_8 : decode cX4_clear 8 = .ok (.return_, 1) := by decide +kernel
theorem dX4_copyFrom_0 : decode cX4_copyFrom 0 = .ok (.aload_n 0, 1) := by decide +kernel
theorem dX4_copyFrom_1 : decode cX4_copyFrom 1 = .ok (.aload_n 1, 1) := by decide +kernel
theorem dX4_copyFrom_2 : decode cX4_copyFrom 2 = .ok (.getfield 9, 3) := by decide +kernel
theorem dX4_copyFrom_5 : decode cX4_copyFrom 5 = .ok (.aload_n 1, 1) := by decide +kernel
theorem dX4_copyFrom_6 : decode cX4_copyFrom 6 = .ok (.getfield 15, 3) := by decide +kernel
theorem dX4_copyFrom_9 : decode cX4_copyFrom 9 = .ok (.aload_n 1, 1) := by decide +kernel
theorem dX4_copyFrom_10 : decode cX4_copyFrom 10 = .ok (.getfield 18, 3) := by decide +kernel
theorem dX4_copyFrom_13 : decode cX4_copyFrom 13 = .ok (.aload_n 1, 1) := by decide +kernel
theorem dX4_copyFrom_14 : decode cX4_copyFrom 14 = .ok (.getfield 21, 3) := by decide +kernel
theorem dX4_copyFrom_17 : decode cX4_copyFrom 17 = .ok (.invokevirtual 24, 3) := by decide +kernel
theorem dX4_copyFrom_20 : decode cX4_copyFrom 20 = .ok (.return_, 1) := by decide +kernel
theorem dX5_init_0 : decode cX5_init 0 = .ok (.aload_n 0, 1) := by decide +kernel
theorem dX5_init_1 : decode cX5_init 1 = .ok (.invokespecial 3, 3) := by decide +kernel
theorem dX5_init_4 : decode cX5_init 4 = .ok (.aload_n 0, 1) := by decide +kernel
theorem dX5_init_5 : decode cX5_init 5 = .ok (.new 9, 3) := by decide +kernel
theorem dX5_init_8 : decode cX5_init 8 = .ok (.dup, 1) := by decide +kernel
theorem dX5_init_9 : decode cX5_init 9 = .ok (.invokespecial 11, 3) := by decide +kernel
theorem dX5_init_12 : decode cX5_init 12 = .ok (.putfield 12, 3) := by decide +kernel
theorem dX5_init_15 : decode cX5_init 15 = .ok (.aload_n 0, 1) := by decide +kernel
theorem dX5_init_16 : decode cX5_init 16 = .ok (.new 18, 3) := by decide +kernel
theorem dX5_init_19 : decode cX5_init 19 = .ok (.dup, 1) := by decide +kernel
theorem dX5_init_20 : decode cX5_init 20 = .ok (.invokespecial 20, 3) := by decide +kernel
theorem dX5_init_23 : decode cX5_init 23 = .ok (.putfield 21, 3) := by decide +kernel
theorem dX5_init_26 : decode cX5_init 26 = .ok (.aload_n 0, 1) := by decide +kernel
theorem dX5_init_27 : decode cX5_init 27 = .ok (.new 25, 3) := by decide +kernel
theorem dX5_init_30 : decode cX5_init 30 = .ok (.dup, 1) := by decide +kernel
theorem dX5_init_31 : decode cX5_init 31 = .ok (.invokespecial 27, 3) := by decide +kernel
theorem dX5_init_34 : decode cX5_init 34 = .ok (.putfield 28, 3) := by decide +kernel
theorem dX5_init_37 : decode cX5_init 37 = .ok (.aload_n 0, 1) := by decide +kernel
theorem dX5_init_38 : decode cX5_init 38 = .ok (.new 25, 3) := by decide +kernel
theorem dX5_init_41 : decode cX5_init 41 = .ok (.dup, 1) := by decide +kernel
theorem dX5_init_42 : decode cX5_init 42 = .ok (.invokespecial 27, 3) := by decide +kernel
theorem dX5_init_45 : decode cX5_init 45 = .ok (.putfield 32, 3) := by decide +kernel
theorem dX5_init_48 : decode cX5_init 48 = .ok (.return_, 1) := by decide +kernel
theorem dX5_clear_0 : decode cX5_clear 0 = .ok (.aload_n 0, 1) := by decide +kernel
theorem dX5_clear_1 : decode cX5_clear 1 = .ok (.iconst 0, 1) := by decide +kernel
theorem dX5_clear_2 : decode cX5_clear 2 = .ok (.putfield 35, 3) := by decide +kernel
theorem dX5_clear_5 : decode cX5_clear 5 = .ok (.aload_n 0, 1) := by decide +kernel
theorem dX5_clear_6 : decode cX5_clear 6 = .ok (.iconst 0, 1) := by decide +kernel
theorem dX5_clear_7 : decode cX5_clear 7 = .ok (.putfield 39, 3) := by decide +kernel
theorem dX5_clear_10 : decode cX5_clear 10 = .ok (.aload_n 0, 1) := by decide +kernel
theorem dX5_clear_11 : decode cX5_clear 11 = .ok (.iconst 0, 1) := by decide +kernel
theorem dX5_clear_12 : decode cX5_clear 12 = .ok (.putfield 42, 3) := by decide +kernel
theorem dX5_clear_15 : decode cX5_clear 15 = .ok (.aload_n 0, 1) := by decide +kernel
theorem dX5_clear_16 : decode cX5_clear 16 = .ok (.iconst 0, 1) := by decide +kernel
theorem dX5_clear_17 : decode cX5_clear 17 = .ok (.putfield 45, 3) := by decide +kernel
theorem dX5_clear_20 : decode cX5_clear 20 = .ok (.aload_n 0, 1) := by decide +kernel
theorem dX5_clear_21 : decode cX5_clear 21 = .ok (.iconst 0, 1) := by decide +kernel
theorem dX5_clear_22 : decode cX5_clear 22 = .ok (.putfield 48, 3) := by decide +kernel
theorem dX5_clear_25 : decode cX5_clear 25 = .ok (.aload_n 0, 1) := by decide +kernel
theorem dX5_clear_26 : decode cX5_clear 26 = .ok (.iconst 0, 1) := by decide +kernel
theorem dX5_clear_27 : decode cX5_clear 27 = .ok (.putfield 51, 3) := by decide +kernel
theorem dX5_clear_30 : decode cX5_clear 30 = .ok (.aload_n 0, 1) := by decide +kernel
theorem dX5_clear_31 : decode cX5_clear 31 = .ok (.iconst 0, 1) := by decide +kernel
theorem dX5_clear_32 : decode cX5_clear 32 = .ok (.putfield 54, 3) := by decide +kernel
theorem dX5_clear_35 : decode cX5_clear 35 = .ok (.aload_n 0, 1) := by decide +kernel
theorem dX5_clear_36 : decode cX5_clear 36 = .ok (.iconst 0, 1) := by decide +kernel
theorem dX5_clear_37 : decode cX5_clear 37 = .ok (.putfield 57, 3) := by decide +kernel
theorem dX5_clear_40 : decode cX5_clear 40 = .ok (.aload_n 0, 1) := by decide +kernel
theorem dX5_clear_41 : decode cX5_clear 41 = .ok (.iconst 0, 1) := by decide +kernel
theorem dX5_clear_42 : decode cX5_clear 42 = .ok (.putfield 60, 3) := by decide +kernel
theorem dX5_clear_45 : decode cX5_clear 45 = .ok (.aload_n 0, 1) := by decide +kernel
theorem dX5_clear_46 : decode cX5_clear 46 = .ok (.iconst 0, 1) := by decide +kernel
theorem dX5_clear_47 : decode cX5_clear 47 = .ok (.putfield 63, 3) := by decide +kernel
theorem dX5_clear_50 : decode cX5_clear 50 = .ok (.aload_n 0, 1) := by decide +kernel
theorem dX5_clear_51 : decode cX5_clear 51 = .ok (.iconst 0, 1) := by decide +kernel
theorem dX5_clear_52 : decode cX5_clear 52 = .ok (.putfield 66, 3) := by decide +kernel
theorem dX5_clear_55 : decode cX5_clear 55 = .ok (.aload_n 0, 1) := by decide +kernel
theorem dX5_clear_56 : decode cX5_clear 56 = .ok (.iconst 0, 1) := by decide +kernel
theorem dX5_clear_57 : decode cX5_clear 57 = .ok (.putfield 70, 3) := by decide +kernel
theorem dX5_clear_60 : decode cX5_clear 60 = .ok (.aload_n 0, 1) := by decide +kernel
theorem dX5_clear_61 : decode cX5_clear 61 = .ok (.iconst 0, 1) := by decide +kernel
theorem dX5_clear_62 : decode cX5_clear 62 = .ok (.putfield 73, 3) := by decide +kernel
theorem dX5_clear_65 : decode cX5_clear 65 = .ok (.aload_n 0, 1) := by decide +kernel
theorem dX5_clear_66 : decode cX5_clear 66 = .ok (.iconst 0, 1) := by decide +kernel
theorem dX5_clear_67 : decode cX5_clear 67 = .ok (.putfield 76, 3) := by decide +kernel
theorem dX5_clear_70 : decode cX5_clear 70 = .ok (.aload_n 0, 1) := by decide +kernel
theorem dX5_clear_71 : decode cX5_clear 71 = .ok (.iconst 0, 1) := by decide +kernel
theorem dX5_clear_72 : decode cX5_clear 72 = .ok (.putfield 79, 3) := by decide +kernel
theorem dX5_clear_75 : decode cX5_clear 75 = .ok (.aload_n 0, 1) := by decide +kernel
theorem dX5_clear_76 : decode cX5_clear 76 = .ok (.getfield 12, 3) := by decide +kernel
theorem dX5_clear_79 : decode cX5_clear 79 = .ok (.iconst 0, 1) := by decide +kernel
theorem dX5_clear_80 : decode cX5_clear 80 = .ok (.putfield 82, 3) := by decide +kernel
theorem dX5_clear_83 : decode cX5_clear 83 = .ok (.aload_n 0, 1) := by decide +kernel
theorem dX5_clear_84 : decode cX5_clear 84 = .ok (.getfield 21, 3) := by decide +kernel
theorem dX5_clear_87 : decode cX5_clear 87 = .ok (.iconst 0, 1) := by decide +kernel
theorem dX5_clear_88 : decode cX5_clear 88 = .ok (.putfield 85, 3) := by decide +kernel
theorem dX5_clear_91 : decode cX5_clear 91 = .ok (.aload_n 0, 1) := by decide +kernel
theorem dX5_clear_92 : decode cX5_clear 92 = .ok (.getfield 28, 3) := by decide +kernel
theorem dX5_clear_95 : decode cX5_clear 95 = .ok (.invokevirtual 88, 3) := by decide +kernel
theorem dX5_clear_98 : decode cX5_clear 98 = .ok (.aload_n 0, 1) := by decide +kernel
theorem dX5_clear_99 : decode cX5_clear 99 = .ok (.getfield 32, 3) := by decide +kernel
theorem dX5_clear_102 : decode cX5_clear 102 = .ok (.invokevirtual 88, 3) := by decide +kernel
theorem dX5_clear_105 : decode cX5_clear 105 = .ok (.return_, 1) := by decide +kernel
theorem dX5_copyFrom_0 : decode cX5_copyFrom 0 = .ok (.aload_n 0, 1) := by decide +kernel
theorem dX5_copyFrom_1 : decode cX5_copyFrom 1 = .ok (.aload_n 1, 1) := by decide +kernel
theorem dX5_copyFrom_2 : decode cX5_copyFrom 2 = .ok (.getfield 35, 3) := by decide +kernel
theorem dX5_copyFrom_5 : decode cX5_copyFrom 5 = .ok (.putfield 35, 3) := by decide +kernel
theorem dX5_copyFrom_8 : decode cX5_copyFrom 8 = .ok (.aload_n 0, 1) := by decide +kernel
theorem dX5_copyFrom_9 : decode cX5_copyFrom 9 = .ok (.aload_n 1, 1) := by decide +kernel
theorem dX5_copyFrom_10 : decode cX5_copyFrom 10 = .ok (.getfield 39, 3) := by decide +kernel
theorem dX5_copyFrom_13 : decode cX5_copyFrom 13 = .ok (.putfield 39, 3) := by decide +kernel
theorem dX5_copyFrom_16 : decode cX5_copyFrom 16 = .ok (.aload_n 0, 1) := by decide +kernel
theorem dX5_copyFrom_17 : decode cX5_copyFrom 17 = .ok (.aload_n 1, 1) := by decide +kernel
theorem dX5_copyFrom_18 : decode cX5_copyFrom 18 = .ok (.getfield 42, 3) := by decide +kernel
theorem dX5_copyFrom_21 : decode cX5_copyFrom 21 = .ok (.putfield 42, 3) := by decide +kernel
theorem dX5_copyFrom_24 : decode cX5_copyFrom 24 = .ok (.aload_n 0, 1) := by decide +kernel
theorem dX5_copyFrom_25 : decode cX5_copyFrom 25 = .ok (.aload_n 1, 1) := by decide +kernel
theorem dX5_copyFrom_26 : decode cX5_copyFrom 26 = .ok (.getfield 45, 3) := by decide +kernel
theorem dX5_copyFrom_29 : decode cX5_copyFrom 29 = .ok (.putfield 45, 3) := by decide +kernel
theorem dX5_copyFrom_32 : decode cX5_copyFrom 32 = .ok (.aload_n 0, 1) := by decide +kernel
theorem dX5_copyFrom_33 : decode cX5_copyFrom 33 = .ok (.aload_n 1, 1) := by decide +kernel
theorem dX5_copyFrom_34 : decode cX5_copyFrom 34 = .ok (.getfield 48, 3) := by decide +kernel
theorem dX5_copyFrom_37 : decode cX5_copyFrom 37 = .ok (.putfield 48, 3) := by decide +kernel
theorem dX5_copyFrom_40 : decode cX5_copyFrom 40 = .ok (.aload_n 0, 1) := by decide +kernel
theorem dX5_copyFrom_41 : decode cX5_copyFrom 41 = .ok (.aload_n 1, 1) := by decide +kernel
theorem dX5_copyFrom_42 : decode cX5_copyFrom 42 = .ok (.getfield 51, 3) := by decide +kernel
theorem dX5_copyFrom_45 : decode cX5_copyFrom 45 = .ok (.putfield 51, 3) := by decide +kernel
theorem dX5_copyFrom_48 : decode cX5_copyFrom 48 = .ok (.aload_n 0, 1) := by decide +kernel
theorem dX5_copyFrom_49 : decode cX5_copyFrom 49 = .ok (.aload_n 1, 1) := by decide +kernel
theorem dX5_copyFrom_50 : decode cX5_copyFrom 50 = .ok (.getfield 54, 3) := by decide +kernel
theorem dX5_copyFrom_53 : decode cX5_copyFrom 53 = .ok (.putfield 54, 3) := by decide +kernel
theorem dX5_copyFrom_56 : decode cX5_copyFrom 56 = .ok (.aload_n 0, 1) := by decide +kernel
theorem dX5_copyFrom_57 : decode cX5_copyFrom 57 = .ok (.aload_n 1, 1) := by decide +kernel
theorem dX5_copyFrom_58 : decode cX5_copyFrom 58 = .ok (.getfield 57, 3) := by decide +kernel
theorem dX5_copyFrom_61 : decode cX5_copyFrom 61 = .ok (.putfield 57, 3) := by decide +kernel
theorem dX5_copyFrom_64 : decode cX5_copyFrom 64 = .ok (.aload_n 0, 1) := by decide +kernel
theorem dX5_copyFrom_65 : decode cX5_copyFrom 65 = .ok (.aload_n 1, 1) := by decide +kernel
theorem dX5_copyFrom_66 : decode cX5_copyFrom 66 = .ok (.getfield 60, 3) := by decide +kernel
theorem dX5_copyFrom_69 : decode cX5_copyFrom 69 = .ok (.putfield 60, 3) := by decide +kernel
theorem dX5_copyFrom_72 : decode cX5_copyFrom 72 = .ok (.aload_n 0, 1) := by decide +kernel
theorem dX5_copyFrom_73 : decode cX5_copyFrom 73 = .ok (.aload_n 1, 1) := by decide +kernel
theorem dX5_copyFrom_74 : decode cX5_copyFrom 74 = .ok (.getfield 63, 3) := by decide +kernel
theorem dX5_copyFrom_77 : decode cX5_copyFrom 77 = .ok (.putfield 63, 3) := by decide +kernel
theorem dX5_copyFrom_80 : decode cX5_copyFrom 80 = .ok (.aload_n 0, 1) := by decide +kernel
theorem dX5_copyFrom_81 : decode cX5_copyFrom 81 = .ok (.aload_n 1, 1) := by decide +kernel
theorem dX5_copyFrom_82 : decode cX5_copyFrom 82 = .ok (.getfield 66, 3) := by decide +kernel
theorem dX5_copyFrom_85 : decode cX5_copyFrom 85 = .ok (.putfield 66, 3) := by decide +kernel
theorem dX5_copyFrom_88 : decode cX5_copyFrom 88 = .ok (.aload_n 0, 1) := by decide +kernel
theorem dX5_copyFrom_89 : decode cX5_copyFrom 89 = .ok (.aload_n 1, 1) := by decide +kernel
theorem dX5_copyFrom_90 : decode cX5_copyFrom 90 = .ok (.getfield 70, 3) := by decide +kernel
theorem dX5_copyFrom_93 : decode cX5_copyFrom 93 = .ok (.putfield 70, 3) := by decide +kernel
theorem dX5_copyFrom_96 : decode cX5_copyFrom 96 = .ok (.aload_n 0, 1) := by decide +kernel
theorem dX5_copyFrom_97 : decode cX5_copyFrom 97 = .ok (.aload_n 1, 1) := by decide +kernel
theorem dX5_copyFrom_98 : decode cX5_copyFrom 98 = .ok (.getfield 73, 3) := by decide +kernel
theorem dX5_copyFrom_101 : decode cX5_copyFrom 101 = .ok (.putfield 73, 3) := by decide +kernel
theorem dX5_copyFrom_104 : decode cX5_copyFrom 104 = .ok (.aload_n 0, 1) := by decide +kernel
theorem dX5_copyFrom_105 : decode cX5_copyFrom 105 = .ok (.aload_n 1, 1) := by decide +kernel
theorem dX5_copyFrom_106 : decode cX5_copyFrom 106 = .ok (.getfield 76, 3) := by decide +kernel
theorem dX5_copyFrom_109 : decode cX5_copyFrom 109 = .ok (.putfield 76, 3) := by decide +kernel
theorem dX5_copyFrom_112 : decode cX5_copyFrom 112 = .ok (.aload_n 0, 1) := by decide +kernel
theorem dX5_copyFrom_113 : decode cX5_copyFrom 113 = .ok (.aload_n 1, 1) := by decide +kernel
theorem dX5_copyFrom_114 : decode cX5_copyFrom 114 = .ok (.getfield 79, 3) := by decide +kernel
theorem dX5_copyFrom_117 : decode cX5_copyFrom 117 = .ok (.putfield 79, 3) := by decide +kernel
theorem dX5_copyFrom_120 : decode cX5_copyFrom 120 = .ok (.aload_n 0, 1) := by decide +kernel
theorem dX5_copyFrom_121 : decode cX5_copyFrom 121 = .ok (.getfield 12, 3) := by decide +kernel
theorem dX5_copyFrom_124 : decode cX5_copyFrom 124 = .ok (.aload_n 1, 1) := by decide +kernel
theorem dX5_copyFrom_125 : decode cX5_copyFrom 125 = .ok (.getfield 12, 3) := by decide +kernel
theorem dX5_copyFrom_128 : decode cX5_copyFrom 128 = .ok (.invokevirtual 91, 3) := by decide +kernel
theorem dX5_copyFrom_131 : decode cX5_copyFrom 131 = .ok (.aload_n 0, 1) := by decide +kernel
theorem dX5_copyFrom_132 : decode cX5_copyFrom 132 = .ok (.getfield 21, 3) := by decide +kernel
theorem dX5_copyFrom_135 : decode cX5_copyFrom 135 = .ok (.aload_n 1, 1) := by decide +kernel
theorem dX5_copyFrom_136 : decode cX5_copyFrom 136 = .ok (.getfield 21, 3) := by decide +kernel
theorem dX5_copyFrom_139 : decode cX5_copyFrom 139 = .ok (.invokevirtual 95, 3) := by decide +kernel
theorem dX5_copyFrom_142 : decode cX5_copyFrom 142 = .ok (.aload_n 0, 1) := by decide +kernel
theorem dX5_copyFrom_143 : decode cX5_copyFrom 143 = .ok (.getfield 28, 3) := by decide +kernel
theorem dX5_copyFrom_146 : decode cX5_copyFrom 146 = .ok (.aload_n 1, 1) := by decide +kernel
theorem dX5_copyFrom_147 : decode cX5_copyFrom 147 = .ok (.getfield 28, 3) := by decide +kernel
theorem dX5_copyFrom_150 : decode cX5_copyFrom 150 = .ok (.invokevirtual 98, 3) := by decide +kernel
theorem dX5_copyFrom_153 : decode cX5_copyFrom 153 = .ok (.return_, 1) := by decide +kernel
theorem dX5_tallyOf_0 : decode cX5_tallyOf 0 = .ok (.iload_n 1, 1) := by decide +kernel
theorem dX5_tallyOf_1 : decode cX5_tallyOf 1 = .ok (.tableswitch 45 0 2 #[27, 35, 40], 27) := by decide +kernel
theorem dX5_tallyOf_28 : decode cX5_tallyOf 28 = .ok (.aload_n 0, 1) := by decide +kernel
theorem dX5_tallyOf_29 : decode cX5_tallyOf 29 = .ok (.getfield 12, 3) := by decide +kernel
theorem dX5_tallyOf_32 : decode cX5_tallyOf 32 = .ok (.getfield 82, 3) := by decide +kernel
theorem dX5_tallyOf_35 : decode cX5_tallyOf 35 = .ok (.ireturn, 1) := by decide +kernel
theorem dX5_tallyOf_36 : decode cX5_tallyOf 36 = .ok (.aload_n 0, 1) := by decide +kernel
theorem dX5_tallyOf_37 : decode cX5_tallyOf 37 = .ok (.getfield 54, 3) := by decide +kernel
theorem dX5_tallyOf_40 : decode cX5_tallyOf 40 = .ok (.ireturn, 1) := by decide +kernel
theorem dX5_tallyOf_41 : decode cX5_tallyOf 41 = .ok (.aload_n 0, 1) := by decide +kernel
theorem dX5_tallyOf_42 : decode cX5_tallyOf 42 = .ok (.getfield 57, 3) := by decide +kernel
theorem dX5_tallyOf_45 : decode cX5_tallyOf 45 = .ok (.ireturn, 1) := by decide +kernel
theorem dX5_tallyOf_46 : decode cX5_tallyOf 46 = .ok (.aload_n 0, 1) := by decide +kernel
theorem dX5_tallyOf_47 : decode cX5_tallyOf 47 = .ok (.getfield 51, 3) := by decide +kernel
theorem dX5_tallyOf_50 : decode cX5_tallyOf 50 = .ok (.ireturn, 1) := by decide +kernel
theorem dX5_send_0 : decode cX5_send 0 = .ok (.iload_n 1, 1) := by decide +kernel
theorem dX5_send_1 : decode cX5_send 1 = .ok (.ifCond .ne 13, 3) := by decide +kernel
theorem dX5_send_4 : decode cX5_send 4 = .ok (.aload_n 0, 1) := by decide +kernel
theorem dX5_send_5 : decode cX5_send 5 = .ok (.getfield 32, 3) := by decide +kernel
theorem dX5_send_8 : decode cX5_send 8 = .ok (.invokevirtual 88, 3) := by decide +kernel
theorem dX5_send_11 : decode cX5_send 11 = .ok (.goto 57, 3) := by decide +kernel
theorem dX5_send_14 : decode cX5_send 14 = .ok (.iload_n 1, 1) := by decide +kernel
theorem dX5_send_15 : decode cX5_send 15 = .ok (.iconst 2, 1) := by decide +kernel
theorem dX5_send_16 : decode cX5_send 16 = .ok (.if_icmp .eq 8, 3) := by decide +kernel
theorem dX5_send_19 : decode cX5_send 19 = .ok (.iload_n 1, 1) := by decide +kernel
theorem dX5_send_20 : decode cX5_send 20 = .ok (.iconst 4, 1) := by decide +kernel
theorem dX5_send_21 : decode cX5_send 21 = .ok (.if_icmp .ne 17, 3) := by decide +kernel
theorem dX5_send_24 : decode cX5_send 24 = .ok (.aload_n 0, 1) := by decide +kernel
theorem dX5_send_25 : decode cX5_send 25 = .ok (.getfield 32, 3) := by decide +kernel
theorem dX5_send_28 : decode cX5_send 28 = .ok (.aload_n 0, 1) := by decide +kernel
theorem dX5_send_29 : decode cX5_send 29 = .ok (.getfield 28, 3) := by decide +kernel
theorem dX5_send_32 : decode cX5_send 32 = .ok (.invokevirtual 98, 3) := by decide +kernel
theorem dX5_send_35 : decode cX5_send 35 = .ok (.goto 33, 3) := by decide +kernel
theorem dX5_send_38 : decode cX5_send 38 = .ok (.aload_n 0, 1) := by decide +kernel
theorem dX5_send_39 : decode cX5_send 39 = .ok (.getfield 32, 3) := by decide +kernel
theorem dX5_send_42 : decode cX5_send 42 = .ok (.iload_n 1, 1) := by decide +kernel
theorem dX5_send_43 : decode cX5_send 43 = .ok (.aload_n 0, 1) := by decide +kernel
theorem dX5_send_44 : decode cX5_send 44 = .ok (.getfield 12, 3) := by decide +kernel
theorem dX5_send_47 : decode cX5_send 47 = .ok (.getfield 101, 3) := by decide +kernel
theorem dX5_send_50 : decode cX5_send 50 = .ok (.iconst 0, 1) := by decide +kernel
theorem dX5_send_51 : decode cX5_send 51 = .ok (.iaload, 1) := by decide +kernel
theorem dX5_send_52 : decode cX5_send 52 = .ok (.aload_n 0, 1) := by decide +kernel
theorem dX5_send_53 : decode cX5_send 53 = .ok (.getfield 12, 3) := by decide +kernel
theorem dX5_send_56 : decode cX5_send 56 = .ok (.getfield 105, 3) := by decide +kernel
theorem dX5_send_59 : decode cX5_send 59 = .ok (.iconst 0, 1) := by decide +kernel
theorem dX5_send_60 : decode cX5_send 60 = .ok (.iaload, 1) := by decide +kernel
theorem dX5_send_61 : decode cX5_send 61 = .ok (.aload_n 0, 1) := by decide +kernel
theorem dX5_send_62 : decode cX5_send 62 = .ok (.getfield 70, 3) := by decide +kernel
theorem dX5_send_65 : decode cX5_send 65 = .ok (.invokevirtual 108, 3) := by decide +kernel
theorem dX5_send_68 : decode cX5_send 68 = .ok (.aload_n 0, 1) := by decide +kernel
theorem dX5_send_69 : decode cX5_send 69 = .ok (.getfield 28, 3) := by decide +kernel
theorem dX5_send_72 : decode cX5_send 72 = .ok (.invokevirtual 88, 3) := by decide +kernel
theorem dX5_send_75 : decode cX5_send 75 = .ok (.iload_n 1, 1) := by decide +kernel
theorem dX5_send_76 : decode cX5_send 76 = .ok (.iconst 3, 1) := by decide +kernel
theorem dX5_send_77 : decode cX5_send 77 = .ok (.if_icmp .ne 38, 3) := by decide +kernel
theorem dX5_send_80 : decode cX5_send 80 = .ok (.aload_n 0, 1) := by decide +kernel
theorem dX5_send_81 : decode cX5_send 81 = .ok (.dup, 1) := by decide +kernel
theorem dX5_send_82 : decode cX5_send 82 = .ok (.getfield 70, 3) := by decide +kernel
theorem dX5_send_85 : decode cX5_send 85 = .ok (.iconst 1, 1) := by decide +kernel
theorem dX5_send_86 : decode cX5_send 86 = .ok (.iadd, 1) := by decide +kernel
theorem dX5_send_87 : decode cX5_send 87 = .ok (.putfield 70, 3) := by decide +kernel
theorem dX5_send_90 : decode cX5_send 90 = .ok (.aload_n 0, 1) := by decide +kernel
theorem dX5_send_91 : decode cX5_send 91 = .ok (.aload_n 0, 1) := by decide +kernel
theorem dX5_send_92 : decode cX5_send 92 = .ok (.getfield 70, 3) := by decide +kernel
theorem dX5_send_95 : decode cX5_send 95 = .ok (.aload_n 0, 1) := by decide +kernel
theorem dX5_send_96 : decode cX5_send 96 = .ok (.getfield 12, 3) := by decide +kernel
theorem dX5_send_99 : decode cX5_send 99 = .ok (.getfield 105, 3) := by decide +kernel
theorem dX5_send_102 : decode cX5_send 102 = .ok (.iconst 0, 1) := by decide +kernel
theorem dX5_send_103 : decode cX5_send 103 = .ok (.iaload, 1) := by decide +kernel
theorem dX5_send_104 : decode cX5_send 104 = .ok (.if_icmp .ge 7, 3) := by decide +kernel
theorem dX5_send_107 : decode cX5_send 107 = .ok (.iconst 1, 1) := by decide +kernel
theorem dX5_send_108 : decode cX5_send 108 = .ok (.goto 4, 3) := by decide +kernel
theorem dX5_send_111 : decode cX5_send 111 = .ok (.iconst 0, 1) := by decide +kernel
theorem dX5_send_112 : decode cX5_send 112 = .ok (.putfield 66, 3) := by decide +kernel
theorem dX5_send_115 : decode cX5_send 115 = .ok (.return_, 1) := by decide +kernel
theorem dX5_awaitAnswer_0 : decode cX5_awaitAnswer 0 = .ok (.aload_n 0, 1) := by decide +kernel
theorem dX5_awaitAnswer_1 : decode cX5_awaitAnswer 1 = .ok (.getfield 32, 3) := by decide +kernel
theorem dX5_awaitAnswer_4 : decode cX5_awaitAnswer 4 = .ok (.getfield 112, 3) := by decide +kernel
theorem dX5_awaitAnswer_7 : decode cX5_awaitAnswer 7 = .ok (.iconst 1, 1) := by decide +kernel
theorem dX5_awaitAnswer_8 : decode cX5_awaitAnswer 8 = .ok (.if_icmp .ne 11, 3) := by decide +kernel
theorem dX5_awaitAnswer_11 : decode cX5_awaitAnswer 11 = .ok (.aload_n 0, 1) := by decide +kernel
theorem dX5_awaitAnswer_12 : decode cX5_awaitAnswer 12 = .ok (.iconst 2, 1) := by decide +kernel
theorem dX5_awaitAnswer_13 : decode cX5_awaitAnswer 13 = .ok (.putfield 63, 3) := by decide +kernel
theorem dX5_awaitAnswer_16 : decode cX5_awaitAnswer 16 = .ok (.goto 26, 3) := by decide +kernel
theorem dX5_awaitAnswer_19 : decode cX5_awaitAnswer 19 = .ok (.aload_n 0, 1) := by decide +kernel
theorem dX5_awaitAnswer_20 : decode cX5_awaitAnswer 20 = .ok (.getfield 32, 3) := by decide +kernel
theorem dX5_awaitAnswer_23 : decode cX5_awaitAnswer 23 = .ok (.getfield 112, 3) := by decide +kernel
theorem dX5_awaitAnswer_26 : decode cX5_awaitAnswer 26 = .ok (.iconst 3, 1) := by decide +kernel
theorem dX5_awaitAnswer_27 : decode cX5_awaitAnswer 27 = .ok (.if_icmp .ne 15, 3) := by decide +kernel
theorem dX5_awaitAnswer_30 : decode cX5_awaitAnswer 30 = .ok (.aload_n 0, 1) := by decide +kernel
theorem dX5_awaitAnswer_31 : decode cX5_awaitAnswer 31 = .ok (.getfield 66, 3) := by decide +kernel
theorem dX5_awaitAnswer_34 : decode cX5_awaitAnswer 34 = .ok (.ifCond .ne 8, 3) := by decide +kernel
theorem dX5_awaitAnswer_37 : decode cX5_awaitAnswer 37 = .ok (.aload_n 0, 1) := by decide +kernel
theorem dX5_awaitAnswer_38 : decode cX5_awaitAnswer 38 = .ok (.iconst 4, 1) := by decide +kernel
theorem dX5_awaitAnswer_39 : decode cX5_awaitAnswer 39 = .ok (.putfield 63, 3) := by decide +kernel
theorem dX5_awaitAnswer_42 : decode cX5_awaitAnswer 42 = .ok (.return_, 1) := by decide +kernel
theorem dX5_overhear_0 : decode cX5_overhear 0 = .ok (.aload_n 0, 1) := by decide +kernel
theorem dX5_overhear_1 : decode cX5_overhear 1 = .ok (.getfield 21, 3) := by decide +kernel
theorem dX5_overhear_4 : decode cX5_overhear 4 = .ok (.iload_n 1, 1) := by decide +kernel
theorem dX5_overhear_5 : decode cX5_overhear 5 = .ok (.iload_n 2, 1) := by decide +kernel
theorem dX5_overhear_6 : decode cX5_overhear 6 = .ok (.aload_n 3, 1) := by decide +kernel
theorem dX5_overhear_7 : decode cX5_overhear 7 = .ok (.getfield 115, 3) := by decide +kernel
theorem dX5_overhear_10 : decode cX5_overhear 10 = .ok (.aload_n 3, 1) := by decide +kernel
theorem dX5_overhear_11 : decode cX5_overhear 11 = .ok (.getfield 112, 3) := by decide +kernel
theorem dX5_overhear_14 : decode cX5_overhear 14 = .ok (.invokevirtual 117, 3) := by decide +kernel
theorem dX5_overhear_17 : decode cX5_overhear 17 = .ok (.iconst 0, 1) := by decide +kernel
theorem dX5_overhear_18 : decode cX5_overhear 18 = .ok (.istore 4, 2) := by decide +kernel
theorem dX5_overhear_20 : decode cX5_overhear 20 = .ok (.aload_n 3, 1) := by decide +kernel
theorem dX5_overhear_21 : decode cX5_overhear 21 = .ok (.getfield 112, 3) := by decide +kernel
theorem dX5_overhear_24 : decode cX5_overhear 24 = .ok (.iconst 1, 1) := by decide +kernel
theorem dX5_overhear_25 : decode cX5_overhear 25 = .ok (.if_icmp .ne 14, 3) := by decide +kernel
theorem dX5_overhear_28 : decode cX5_overhear 28 = .ok (.aload_n 3, 1) := by decide +kernel
theorem dX5_overhear_29 : decode cX5_overhear 29 = .ok (.getfield 120, 3) := by decide +kernel
theorem dX5_overhear_32 : decode cX5_overhear 32 = .ok (.iconst 2, 1) := by decide +kernel
theorem dX5_overhear_33 : decode cX5_overhear 33 = .ok (.iadd, 1) := by decide +kernel
theorem dX5_overhear_34 : decode cX5_overhear 34 = .ok (.istore 4, 2) := by decide +kernel
theorem dX5_overhear_36 : decode cX5_overhear 36 = .ok (.goto 41, 3) := by decide +kernel
theorem dX5_overhear_39 : decode cX5_overhear 39 = .ok (.aload_n 3, 1) := by decide +kernel
theorem dX5_overhear_40 : decode cX5_overhear 40 = .ok (.getfield 112, 3) := by decide +kernel
theorem dX5_overhear_43 : decode cX5_overhear 43 = .ok (.iconst 2, 1) := by decide +kernel
theorem dX5_overhear_44 : decode cX5_overhear 44 = .ok (.if_icmp .ne 14, 3) := by decide +kernel
theorem dX5_overhear_47 : decode cX5_overhear 47 = .ok (.aload_n 3, 1) := by decide +kernel
theorem dX5_overhear_48 : decode cX5_overhear 48 = .ok (.getfield 120, 3) := by decide +kernel
theorem dX5_overhear_51 : decode cX5_overhear 51 = .ok (.iconst 1, 1) := by decide +kernel
theorem dX5_overhear_52 : decode cX5_overhear 52 = .ok (.iadd, 1) := by decide +kernel
theorem dX5_overhear_53 : decode cX5_overhear 53 = .ok (.istore 4, 2) := by decide +kernel
theorem dX5_overhear_55 : decode cX5_overhear 55 = .ok (.goto 22, 3) := by decide +kernel
theorem dX5_overhear_58 : decode cX5_overhear 58 = .ok (.aload_n 3, 1) := by decide +kernel
theorem dX5_overhear_59 : decode cX5_overhear 59 = .ok (.getfield 112, 3) := by decide +kernel
theorem dX5_overhear_62 : decode cX5_overhear 62 = .ok (.iconst 3, 1) := by decide +kernel
theorem dX5_overhear_63 : decode cX5_overhear 63 = .ok (.if_icmp .ne 14, 3) := by decide +kernel
theorem dX5_overhear_66 : decode cX5_overhear 66 = .ok (.aload_n 3, 1) := by decide +kernel
theorem dX5_overhear_67 : decode cX5_overhear 67 = .ok (.getfield 120, 3) := by decide +kernel
theorem dX5_overhear_70 : decode cX5_overhear 70 = .ok (.aload_n 3, 1) := by decide +kernel
theorem dX5_overhear_71 : decode cX5_overhear 71 = .ok (.getfield 122, 3) := by decide +kernel
theorem dX5_overhear_74 : decode cX5_overhear 74 = .ok (.isub, 1) := by decide +kernel
theorem dX5_overhear_75 : decode cX5_overhear 75 = .ok (.istore 4, 2) := by decide +kernel
theorem dX5_overhear_77 : decode cX5_overhear 77 = .ok (.aload_n 0, 1) := by decide +kernel
theorem dX5_overhear_78 : decode cX5_overhear 78 = .ok (.aload_n 0, 1) := by decide +kernel
theorem dX5_overhear_79 : decode cX5_overhear 79 = .ok (.getfield 48, 3) := by decide +kernel
theorem dX5_overhear_82 : decode cX5_overhear 82 = .ok (.iload_n 1, 1) := by decide +kernel
theorem dX5_overhear_83 : decode cX5_overhear 83 = .ok (.iload 4, 2) := by decide +kernel
theorem dX5_overhear_85 : decode cX5_overhear 85 = .ok (.iadd, 1) := by decide +kernel
theorem dX5_overhear_86 : decode cX5_overhear 86 = .ok (.invokestatic 125, 3) := by decide +kernel
theorem dX5_overhear_89 : decode cX5_overhear 89 = .ok (.putfield 48, 3) := by decide +kernel
theorem dX5_overhear_92 : decode cX5_overhear 92 = .ok (.return_, 1) := by decide +kernel
theorem dX5_take_0 : decode cX5_take 0 = .ok (.aload_n 3, 1) := by decide +kernel
theorem dX5_take_1 : decode cX5_take 1 = .ok (.getfield 112, 3) := by decide +kernel
theorem dX5_take_4 : decode cX5_take 4 = .ok (.iconst 1, 1) := by decide +kernel
theorem dX5_take_5 : decode cX5_take 5 = .ok (.if_icmp .ne 28, 3) := by decide +kernel
theorem dX5_take_8 : decode cX5_take 8 = .ok (.iload_n 1, 1) := by decide +kernel
theorem dX5_take_9 : decode cX5_take 9 = .ok (.aload_n 0, 1) := by decide +kernel
theorem dX5_take_10 : decode cX5_take 10 = .ok (.getfield 48, 3) := by decide +kernel
theorem dX5_take_13 : decode cX5_take 13 = .ok (.if_icmp .le 20, 3) := by decide +kernel
theorem dX5_take_16 : decode cX5_take 16 = .ok (.aload_n 0, 1) := by decide +kernel
theorem dX5_take_17 : decode cX5_take 17 = .ok (.getfield 28, 3) := by decide +kernel
theorem dX5_take_20 : decode cX5_take 20 = .ok (.iconst 2, 1) := by decide +kernel
theorem dX5_take_21 : decode cX5_take 21 = .ok (.iload_n 2, 1) := by decide +kernel
theorem dX5_take_22 : decode cX5_take 22 = .ok (.aload_n 3, 1) := by decide +kernel
theorem dX5_take_23 : decode cX5_take 23 = .ok (.getfield 120, 3) := by decide +kernel
theorem dX5_take_26 : decode cX5_take 26 = .ok (.iconst 0, 1) := by decide +kernel
theorem dX5_take_27 : decode cX5_take 27 = .ok (.invokevirtual 108, 3) := by decide +kernel
theorem dX5_take_30 : decode cX5_take 30 = .ok (.goto 73, 3) := by decide +kernel
theorem dX5_take_33 : decode cX5_take 33 = .ok (.aload_n 3, 1) := by decide +kernel
theorem dX5_take_34 : decode cX5_take 34 = .ok (.getfield 112, 3) := by decide +kernel
theorem dX5_take_37 : decode cX5_take 37 = .ok (.iconst 3, 1) := by decide +kernel
theorem dX5_take_38 : decode cX5_take 38 = .ok (.if_icmp .ne 13, 3) := by decide +kernel
theorem dX5_take_41 : decode cX5_take 41 = .ok (.aload_n 0, 1) := by decide +kernel
theorem dX5_take_42 : decode cX5_take 42 = .ok (.iload_n 1, 1) := by decide +kernel
theorem dX5_take_43 : decode cX5_take 43 = .ok (.iload_n 2, 1) := by decide +kernel
theorem dX5_take_44 : decode cX5_take 44 = .ok (.aload_n 3, 1) := by decide +kernel
theorem dX5_take_45 : decode cX5_take 45 = .ok (.invokevirtual 131, 3) := by decide +kernel
theorem dX5_take_48 : decode cX5_take 48 = .ok (.goto 55, 3) := by decide +kernel
theorem dX5_take_51 : decode cX5_take 51 = .ok (.aload_n 3, 1) := by decide +kernel
theorem dX5_take_52 : decode cX5_take 52 = .ok (.getfield 112, 3) := by decide +kernel
theorem dX5_take_55 : decode cX5_take 55 = .ok (.iconst 2, 1) := by decide +kernel
theorem dX5_take_56 : decode cX5_take 56 = .ok (.if_icmp .ne 24, 3) := by decide +kernel
theorem dX5_take_59 : decode cX5_take 59 = .ok (.aload_n 0, 1) := by decide +kernel
theorem dX5_take_60 : decode cX5_take 60 = .ok (.getfield 63, 3) := by decide +kernel
theorem dX5_take_63 : decode cX5_take 63 = .ok (.iconst 2, 1) := by decide +kernel
theorem dX5_take_64 : decode cX5_take 64 = .ok (.if_icmp .ne 16, 3) := by decide +kernel
theorem dX5_take_67 : decode cX5_take 67 = .ok (.aload_n 0, 1) := by decide +kernel
theorem dX5_take_68 : decode cX5_take 68 = .ok (.iconst 0, 1) := by decide +kernel
theorem dX5_take_69 : decode cX5_take 69 = .ok (.putfield 63, 3) := by decide +kernel
theorem dX5_take_72 : decode cX5_take 72 = .ok (.aload_n 0, 1) := by decide +kernel
theorem dX5_take_73 : decode cX5_take 73 = .ok (.iconst 1, 1) := by decide +kernel
theorem dX5_take_74 : decode cX5_take 74 = .ok (.putfield 66, 3) := by decide +kernel
theorem dX5_take_77 : decode cX5_take 77 = .ok (.goto 26, 3) := by decide +kernel
theorem dX5_take_80 : decode cX5_take 80 = .ok (.aload_n 3, 1) := by decide +kernel
theorem dX5_take_81 : decode cX5_take 81 = .ok (.getfield 112, 3) := by decide +kernel
theorem dX5_take_84 : decode cX5_take 84 = .ok (.iconst 4, 1) := by decide +kernel
theorem dX5_take_85 : decode cX5_take 85 = .ok (.if_icmp .ne 18, 3) := by decide +kernel
theorem dX5_take_88 : decode cX5_take 88 = .ok (.aload_n 0, 1) := by decide +kernel
theorem dX5_take_89 : decode cX5_take 89 = .ok (.getfield 63, 3) := by decide +kernel
theorem dX5_take_92 : decode cX5_take 92 = .ok (.iconst 4, 1) := by decide +kernel
theorem dX5_take_93 : decode cX5_take 93 = .ok (.if_icmp .ne 10, 3) := by decide +kernel
theorem dX5_take_96 : decode cX5_take 96 = .ok (.aload_n 0, 1) := by decide +kernel
theorem dX5_take_97 : decode cX5_take 97 = .ok (.iconst 0, 1) := by decide +kernel
theorem dX5_take_98 : decode cX5_take 98 = .ok (.putfield 63, 3) := by decide +kernel
theorem dX5_take_101 : decode cX5_take 101 = .ok (.iconst 1, 1) := by decide +kernel
theorem dX5_take_102 : decode cX5_take 102 = .ok (.ireturn, 1) := by decide +kernel
theorem dX5_take_103 : decode cX5_take 103 = .ok (.iconst 0, 1) := by decide +kernel
theorem dX5_take_104 : decode cX5_take 104 = .ok (.ireturn, 1) := by decide +kernel
theorem dX5_takePart_0 : decode cX5_takePart 0 = .ok (.aload_n 0, 1) := by decide +kernel
theorem dX5_takePart_1 : decode cX5_takePart 1 = .ok (.getfield 73, 3) := by decide +kernel
theorem dX5_takePart_4 : decode cX5_takePart 4 = .ok (.iload_n 2, 1) := by decide +kernel
theorem dX5_takePart_5 : decode cX5_takePart 5 = .ok (.if_icmp .ne 28, 3) := by decide +kernel
theorem dX5_takePart_8 : decode cX5_takePart 8 = .ok (.aload_n 0, 1) := by decide +kernel
theorem dX5_takePart_9 : decode cX5_takePart 9 = .ok (.getfield 76, 3) := by decide +kernel
theorem dX5_takePart_12 : decode cX5_takePart 12 = .ok (.aload_n 3, 1) := by decide +kernel
theorem dX5_takePart_13 : decode cX5_takePart 13 = .ok (.getfield 122, 3) := by decide +kernel
theorem dX5_takePart_16 : decode cX5_takePart 16 = .ok (.if_icmp .ne 17, 3) := by decide +kernel
theorem dX5_takePart_19 : decode cX5_takePart 19 = .ok (.aload_n 0, 1) := by decide +kernel
theorem dX5_takePart_20 : decode cX5_takePart 20 = .ok (.getfield 79, 3) := by decide +kernel
theorem dX5_takePart_23 : decode cX5_takePart 23 = .ok (.iload_n 1, 1) := by decide +kernel
theorem dX5_takePart_24 : decode cX5_takePart 24 = .ok (.iconst 1, 1) := by decide +kernel
theorem dX5_takePart_25 : decode cX5_takePart 25 = .ok (.isub, 1) := by decide +kernel
theorem dX5_takePart_26 : decode cX5_takePart 26 = .ok (.if_icmp .ne 7, 3) := by decide +kernel
theorem dX5_takePart_29 : decode cX5_takePart 29 = .ok (.iconst 1, 1) := by decide +kernel
theorem dX5_takePart_30 : decode cX5_takePart 30 = .ok (.goto 4, 3) := by decide +kernel
theorem dX5_takePart_33 : decode cX5_takePart 33 = .ok (.iconst 0, 1) := by decide +kernel
theorem dX5_takePart_34 : decode cX5_takePart 34 = .ok (.istore 4, 2) := by decide +kernel
theorem dX5_takePart_36 : decode cX5_takePart 36 = .ok (.aload_n 3, 1) := by decide +kernel
theorem dX5_takePart_37 : decode cX5_takePart 37 = .ok (.getfield 122, 3) := by decide +kernel
theorem dX5_takePart_40 : decode cX5_takePart 40 = .ok (.ifCond .eq 9, 3) := by decide +kernel
theorem dX5_takePart_43 : decode cX5_takePart 43 = .ok (.iload 4, 2) := by decide +kernel
theorem dX5_takePart_45 : decode cX5_takePart 45 = .ok (.ifCond .ne 4, 3) := by decide +kernel
theorem dX5_takePart_48 : decode cX5_takePart 48 = .ok (.return_, 1) := by decide +kernel
theorem dX5_takePart_49 : decode cX5_takePart 49 = .ok (.aload_n 0, 1) := by decide +kernel
theorem dX5_takePart_50 : decode cX5_takePart 50 = .ok (.iload_n 2, 1) := by decide +kernel
theorem dX5_takePart_51 : decode cX5_takePart 51 = .ok (.putfield 73, 3) := by decide +kernel
theorem dX5_takePart_54 : decode cX5_takePart 54 = .ok (.aload_n 0, 1) := by decide +kernel
theorem dX5_takePart_55 : decode cX5_takePart 55 = .ok (.aload_n 3, 1) := by decide +kernel
theorem dX5_takePart_56 : decode cX5_takePart 56 = .ok (.getfield 122, 3) := by decide +kernel
theorem dX5_takePart_59 : decode cX5_takePart 59 = .ok (.iconst 1, 1) := by decide +kernel
theorem dX5_takePart_60 : decode cX5_takePart 60 = .ok (.iadd, 1) := by decide +kernel
theorem dX5_takePart_61 : decode cX5_takePart 61 = .ok (.putfield 76, 3) := by decide +kernel
theorem dX5_takePart_64 : decode cX5_takePart 64 = .ok (.aload_n 0, 1) := by decide +kernel
theorem dX5_takePart_65 : decode cX5_takePart 65 = .ok (.iload_n 1, 1) := by decide +kernel
theorem dX5_takePart_66 : decode cX5_takePart 66 = .ok (.putfield 79, 3) := by decide +kernel
theorem dX5_takePart_69 : decode cX5_takePart 69 = .ok (.aload_n 0, 1) := by decide +kernel
theorem dX5_takePart_70 : decode cX5_takePart 70 = .ok (.getfield 76, 3) := by decide +kernel
theorem dX5_takePart_73 : decode cX5_takePart 73 = .ok (.aload_n 3, 1) := by decide +kernel
theorem dX5_takePart_74 : decode cX5_takePart 74 = .ok (.getfield 120, 3) := by decide +kernel
theorem dX5_takePart_77 : decode cX5_takePart 77 = .ok (.if_icmp .ne 17, 3) := by decide +kernel
theorem dX5_takePart_80 : decode cX5_takePart 80 = .ok (.aload_n 0, 1) := by decide +kernel
theorem dX5_takePart_81 : decode cX5_takePart 81 = .ok (.getfield 28, 3) := by decide +kernel
theorem dX5_takePart_84 : decode cX5_takePart 84 = .ok (.iconst 4, 1) := by decide +kernel
theorem dX5_takePart_85 : decode cX5_takePart 85 = .ok (.iload_n 2, 1) := by decide +kernel
theorem dX5_takePart_86 : decode cX5_takePart 86 = .ok (.aload_n 3, 1) := by decide +kernel
theorem dX5_takePart_87 : decode cX5_takePart 87 = .ok (.getfield 120, 3) := by decide +kernel
theorem dX5_takePart_90 : decode cX5_takePart 90 = .ok (.iconst 0, 1) := by decide +kernel
theorem dX5_takePart_91 : decode cX5_takePart 91 = .ok (.invokevirtual 108, 3) := by decide +kernel
theorem dX5_takePart_94 : decode cX5_takePart 94 = .ok (.return_, 1) := by decide +kernel
theorem dX5_closeLetter_0 : decode cX5_closeLetter 0 = .ok (.aload_n 0, 1) := by decide +kernel
theorem dX5_closeLetter_1 : decode cX5_closeLetter 1 = .ok (.getfield 12, 3) := by decide +kernel
theorem dX5_closeLetter_4 : decode cX5_closeLetter 4 = .ok (.invokevirtual 135, 3) := by decide +kernel
theorem dX5_closeLetter_7 : decode cX5_closeLetter 7 = .ok (.aload_n 0, 1) := by decide +kernel
theorem dX5_closeLetter_8 : decode cX5_closeLetter 8 = .ok (.iconst 0, 1) := by decide +kernel
theorem dX5_closeLetter_9 : decode cX5_closeLetter 9 = .ok (.putfield 70, 3) := by decide +kernel
theorem dX5_closeLetter_12 : decode cX5_closeLetter 12 = .ok (.aload_n 0, 1) := by decide +kernel
theorem dX5_closeLetter_13 : decode cX5_closeLetter 13 = .ok (.iconst 0, 1) := by decide +kernel
theorem dX5_closeLetter_14 : decode cX5_closeLetter 14 = .ok (.putfield 42, 3) := by decide +kernel
theorem dX5_closeLetter_17 : decode cX5_closeLetter 17 = .ok (.aload_n 0, 1) := by decide +kernel
theorem dX5_closeLetter_18 : decode cX5_closeLetter 18 = .ok (.iload_n 1, 1) := by decide +kernel
theorem dX5_closeLetter_19 : decode cX5_closeLetter 19 = .ok (.putfield 39, 3) := by decide +kernel
theorem dX5_closeLetter_22 : decode cX5_closeLetter 22 = .ok (.return_, 1) := by decide +kernel
theorem dX5_failLetter_0 : decode cX5_failLetter 0 = .ok (.aload_n 0, 1) := by decide +kernel
theorem dX5_failLetter_1 : decode cX5_failLetter 1 = .ok (.iconst 0, 1) := by decide +kernel
theorem dX5_failLetter_2 : decode cX5_failLetter 2 = .ok (.putfield 63, 3) := by decide +kernel
theorem dX5_failLetter_5 : decode cX5_failLetter 5 = .ok (.aload_n 0, 1) := by decide +kernel
theorem dX5_failLetter_6 : decode cX5_failLetter 6 = .ok (.dup, 1) := by decide +kernel
theorem dX5_failLetter_7 : decode cX5_failLetter 7 = .ok (.getfield 42, 3) := by decide +kernel
theorem dX5_failLetter_10 : decode cX5_failLetter 10 = .ok (.iconst 1, 1) := by decide +kernel
theorem dX5_failLetter_11 : decode cX5_failLetter 11 = .ok (.iadd, 1) := by decide +kernel
theorem dX5_failLetter_12 : decode cX5_failLetter 12 = .ok (.putfield 42, 3) := by decide +kernel
theorem dX5_failLetter_15 : decode cX5_failLetter 15 = .ok (.aload_n 0, 1) := by decide +kernel
theorem dX5_failLetter_16 : decode cX5_failLetter 16 = .ok (.getfield 42, 3) := by decide +kernel
theorem dX5_failLetter_19 : decode cX5_failLetter 19 = .ok (.iload_n 3, 1) := by decide +kernel
theorem dX5_failLetter_20 : decode cX5_failLetter 20 = .ok (.if_icmp .lt 21, 3) := by decide +kernel
theorem dX5_failLetter_23 : decode cX5_failLetter 23 = .ok (.aload_n 0, 1) := by decide +kernel
theorem dX5_failLetter_24 : decode cX5_failLetter 24 = .ok (.dup, 1) := by decide +kernel
theorem dX5_failLetter_25 : decode cX5_failLetter 25 = .ok (.getfield 57, 3) := by decide +kernel
theorem dX5_failLetter_28 : decode cX5_failLetter 28 = .ok (.iconst 1, 1) := by decide +kernel
theorem dX5_failLetter_29 : decode cX5_failLetter 29 = .ok (.iadd, 1) := by decide +kernel
theorem dX5_failLetter_30 : decode cX5_failLetter 30 = .ok (.putfield 57, 3) := by decide +kernel
theorem dX5_failLetter_33 : decode cX5_failLetter 33 = .ok (.aload_n 0, 1) := by decide +kernel
theorem dX5_failLetter_34 : decode cX5_failLetter 34 = .ok (.iload_n 1, 1) := by decide +kernel
theorem dX5_failLetter_35 : decode cX5_failLetter 35 = .ok (.invokevirtual 138, 3) := by decide +kernel
theorem dX5_failLetter_38 : decode cX5_failLetter 38 = .ok (.goto 22, 3) := by decide +kernel
theorem dX5_failLetter_41 : decode cX5_failLetter 41 = .ok (.aload_n 0, 1) := by decide +kernel
theorem dX5_failLetter_42 : decode cX5_failLetter 42 = .ok (.iconst 0, 1) := by decide +kernel
theorem dX5_failLetter_43 : decode cX5_failLetter 43 = .ok (.putfield 70, 3) := by decide +kernel
theorem dX5_failLetter_46 : decode cX5_failLetter 46 = .ok (.aload_n 0, 1) := by decide +kernel
theorem dX5_failLetter_47 : decode cX5_failLetter 47 = .ok (.iconst 2, 1) := by decide +kernel
theorem dX5_failLetter_48 : decode cX5_failLetter 48 = .ok (.aload_n 0, 1) := by decide +kernel
theorem dX5_failLetter_49 : decode cX5_failLetter 49 = .ok (.getfield 39, 3) := by decide +kernel
theorem dX5_failLetter_52 : decode cX5_failLetter 52 = .ok (.imul, 1) := by decide +kernel
theorem dX5_failLetter_53 : decode cX5_failLetter 53 = .ok (.iload_n 2, 1) := by decide +kernel
theorem dX5_failLetter_54 : decode cX5_failLetter 54 = .ok (.invokestatic 142, 3) := by decide +kernel
theorem dX5_failLetter_57 : decode cX5_failLetter 57 = .ok (.putfield 39, 3) := by decide +kernel
theorem dX5_failLetter_60 : decode cX5_failLetter 60 = .ok (.return_, 1) := by decide +kernel
theorem dX6_init_0 : decode cX6_init 0 = .ok (.aload_n 0, 1) := by decide +kernel
theorem dX6_init_1 : decode cX6_init 1 = .ok (.invokespecial 1, 3) := by decide +kernel
theorem dX6_init_4 : decode cX6_init 4 = .ok (.aload_n 0, 1) := by decide +kernel
theorem dX6_init_5 : decode cX6_init 5 = .ok (.sipush 200, 3) := by decide +kernel
theorem dX6_init_8 : decode cX6_init 8 = .ok (.newarray .char, 2) := by decide +kernel
theorem dX6_init_10 : decode cX6_init 10 = .ok (.putfield 9, 3) := by decide +kernel
theorem dX6_init_13 : decode cX6_init 13 = .ok (.aload_n 0, 1) := by decide +kernel
theorem dX6_init_14 : decode cX6_init 14 = .ok (.new 13, 3) := by decide +kernel
theorem dX6_init_17 : decode cX6_init 17 = .ok (.dup, 1) := by decide +kernel
theorem dX6_init_18 : decode cX6_init 18 = .ok (.invokespecial 15, 3) := by decide +kernel
theorem dX6_init_21 : decode cX6_init 21 = .ok (.putfield 16, 3) := by decide +kernel
theorem dX6_init_24 : decode cX6_init 24 = .ok (.aload_n 0, 1) := by decide +kernel
theorem dX6_init_25 : decode cX6_init 25 = .ok (.new 13, 3) := by decide +kernel
theorem dX6_init_28 : decode cX6_init 28 = .ok (.dup, 1) := by decide +kernel
theorem dX6_init_29 : decode cX6_init 29 = .ok (.invokespecial 15, 3) := by decide +kernel
theorem dX6_init_32 : decode cX6_init 32 = .ok (.putfield 20, 3) := by decide +kernel
theorem dX6_init_35 : decode cX6_init 35 = .ok (.aload_n 0, 1) := by decide +kernel
theorem dX6_init_36 : decode cX6_init 36 = .ok (.new 23, 3) := by decide +kernel
theorem dX6_init_39 : decode cX6_init 39 = .ok (.dup, 1) := by decide +kernel
theorem dX6_init_40 : decode cX6_init 40 = .ok (.aload_n 0, 1) := by decide +kernel
theorem dX6_init_41 : decode cX6_init 41 = .ok (.getfield 9, 3) := by decide +kernel
theorem dX6_init_44 : decode cX6_init 44 = .ok (.aload_n 0, 1) := by decide +kernel
theorem dX6_init_45 : decode cX6_init 45 = .ok (.getfield 20, 3) := by decide +kernel
theorem dX6_init_48 : decode cX6_init 48 = .ok (.invokespecial 25, 3) := by decide +kernel
theorem dX6_init_51 : decode cX6_init 51 = .ok (.putfield 28, 3) := by decide +kernel
theorem dX6_init_54 : decode cX6_init 54 = .ok (.aload_n 0, 1) := by decide +kernel
theorem dX6_init_55 : decode cX6_init 55 = .ok (.iconst 4, 1) := by decide +kernel
theorem dX6_init_56 : decode cX6_init 56 = .ok (.anewarray 13, 3) := by decide +kernel
theorem dX6_init_59 : decode cX6_init 59 = .ok (.putfield 32, 3) := by decide +kernel
theorem dX6_init_62 : decode cX6_init 62 = .ok (.iconst 0, 1) := by decide +kernel
theorem dX6_init_63 : decode cX6_init 63 = .ok (.istore_n 1, 1) := by decide +kernel
theorem dX6_init_64 : decode cX6_init 64 = .ok (.iload_n 1, 1) := by decide +kernel
theorem dX6_init_65 : decode cX6_init 65 = .ok (.iconst 4, 1) := by decide +kernel
theorem dX6_init_66 : decode cX6_init 66 = .ok (.if_icmp .ge 22, 3) := by decide +kernel
theorem dX6_init_69 : decode cX6_init 69 = .ok (.aload_n 0, 1) := by decide +kernel
theorem dX6_init_70 : decode cX6_init 70 = .ok (.getfield 32, 3) := by decide +kernel
theorem dX6_init_73 : decode cX6_init 73 = .ok (.iload_n 1, 1) := by decide +kernel
theorem dX6_init_74 : decode cX6_init 74 = .ok (.new 13, 3) := by decide +kernel
theorem dX6_init_77 : decode cX6_init 77 = .ok (.dup, 1) := by decide +kernel
theorem dX6_init_78 : decode cX6_init 78 = .ok (.invokespecial 15, 3) := by decide +kernel
theorem dX6_init_81 : decode cX6_init 81 = .ok (.aastore, 1) := by decide +kernel
theorem dX6_init_82 : decode cX6_init 82 = .ok (.iinc 1 1, 3) := by decide +kernel
theorem dX6_init_85 : decode cX6_init 85 = .ok (.goto (-21), 3) := by decide +kernel
theorem dX6_init_88 : decode cX6_init 88 = .ok (.iconst 0, 1) := by decide +kernel
theorem dX6_init_89 : decode cX6_init 89 = .ok (.istore_n 1, 1) := by decide +kernel
theorem dX6_init_90 : decode cX6_init 90 = .ok (.iload_n 1, 1) := by decide +kernel
theorem dX6_init_91 : decode cX6_init 91 = .ok (.ldc 36, 2) := by decide +kernel
theorem dX6_init_93 : decode cX6_init 93 = .ok (.invokevirtual 38, 3) := by decide +kernel
theorem dX6_init_96 : decode cX6_init 96 = .ok (.if_icmp .ge 35, 3) := by decide +kernel
theorem dX6_init_99 : decode cX6_init 99 = .ok (.iload_n 1, 1) := by decide +kernel
theorem dX6_init_100 : decode cX6_init 100 = .ok (.sipush 200, 3) := by decide +kernel
theorem dX6_init_103 : decode cX6_init 103 = .ok (.if_icmp .ge 28, 3) := by decide +kernel
theorem dX6_init_106 : decode cX6_init 106 = .ok (.aload_n 0, 1) := by decide +kernel
theorem dX6_init_107 : decode cX6_init 107 = .ok (.getfield 9, 3) := by decide +kernel
theorem dX6_init_110 : decode cX6_init 110 = .ok (.iload_n 1, 1) := by decide +kernel
theorem dX6_init_111 : decode cX6_init 111 = .ok (.ldc 36, 2) := by decide +kernel
theorem dX6_init_113 : decode cX6_init 113 = .ok (.iload_n 1, 1) := by decide +kernel
theorem dX6_init_114 : decode cX6_init 114 = .ok (.invokevirtual 44, 3) := by decide +kernel
theorem dX6_init_117 : decode cX6_init 117 = .ok (.castore, 1) := by decide +kernel
theorem dX6_init_118 : decode cX6_init 118 = .ok (.aload_n 0, 1) := by decide +kernel
theorem dX6_init_119 : decode cX6_init 119 = .ok (.iload_n 1, 1) := by decide +kernel
theorem dX6_init_120 : decode cX6_init 120 = .ok (.iconst 1, 1) := by decide +kernel
theorem dX6_init_121 : decode cX6_init 121 = .ok (.iadd, 1) := by decide +kernel
theorem dX6_init_122 : decode cX6_init 122 = .ok (.putfield 48, 3) := by decide +kernel
theorem dX6_init_125 : decode cX6_init 125 = .ok (.iinc 1 1, 3) := by decide +kernel
theorem dX6_init_128 : decode cX6_init 128 = .ok (.goto (-38), 3) := by decide +kernel
theorem dX6_init_131 : decode cX6_init 131 = .ok (.aload_n 0, 1) := by decide +kernel
theorem dX6_init_132 : decode cX6_init 132 = .ok (.invokevirtual 52, 3) := by decide +kernel
theorem dX6_init_135 : decode cX6_init 135 = .ok (.pop, 1) := by decide +kernel
theorem dX6_init_136 : decode cX6_init 136 = .ok (.aload_n 0, 1) := by decide +kernel
theorem dX6_init_137 : decode cX6_init 137 = .ok (.iconst 0, 1) := by decide +kernel
theorem dX6_init_138 : decode cX6_init 138 = .ok (.putfield 48, 3) := by decide +kernel
theorem dX6_init_141 : decode cX6_init 141 = .ok (.return_, 1) := by decide +kernel
theorem dX6_write_0 : decode cX6_write 0 = .ok (.iload_n 1, 1) := by decide +kernel
theorem dX6_write_1 : decode cX6_write 1 = .ok (.bipush 32, 2) := by decide +kernel
theorem dX6_write_3 : decode cX6_write 3 = .ok (.if_icmp .lt 9, 3) := by decide +kernel
theorem dX6_write_6 : decode cX6_write 6 = .ok (.iload_n 1, 1) := by decide +kernel
theorem dX6_write_7 : decode cX6_write 7 = .ok (.bipush 126, 2) := by decide +kernel
theorem dX6_write_9 : decode cX6_write 9 = .ok (.if_icmp .le 5, 3) := by decide +kernel
theorem dX6_write_12 : decode cX6_write 12 = .ok (.iconst (-1), 1) := by decide +kernel
theorem dX6_write_13 : decode cX6_write 13 = .ok (.ireturn, 1) := by decide +kernel
end
section
theorem dX6_write_14 : decode cX6_write 14 = .ok (.aload_n 0, 1) := by decide +kernel
theorem dX6_write_15 : decode cX6_write 15 = .ok (.getfield 48, 3) := by decide +kernel
theorem dX6_write_18 : decode cX6_write 18 = .ok (.sipush 200, 3) := by decide +kernel
theorem dX6_write_21 : decode cX6_write 21 = .ok (.if_icmp .lt 6, 3) := by decide +kernel
theorem dX6_write_24 : decode cX6_write 24 = .ok (.bipush (-3), 2) := by decide +kernel
theorem dX6_write_26 : decode cX6_write 26 = .ok (.ireturn, 1) := by decide +kernel
theorem dX6_write_27 : decode cX6_write 27 = .ok (.aload_n 0, 1) := by decide +kernel
theorem dX6_write_28 : decode cX6_write 28 = .ok (.getfield 9, 3) := by decide +kernel
theorem dX6_write_31 : decode cX6_write 31 = .ok (.aload_n 0, 1) := by decide +kernel
theorem dX6_write_32 : decode cX6_write 32 = .ok (.getfield 48, 3) := by decide +kernel
theorem dX6_write_35 : decode cX6_write 35 = .ok (.iload_n 1, 1) := by decide +kernel
theorem dX6_write_36 : decode cX6_write 36 = .ok (.i2c, 1) := by decide +kernel
theorem dX6_write_37 : decode cX6_write 37 = .ok (.castore, 1) := by decide +kernel
theorem dX6_write_38 : decode cX6_write 38 = .ok (.aload_n 0, 1) := by decide +kernel
theorem dX6_write_39 : decode cX6_write 39 = .ok (.dup, 1) := by decide +kernel
theorem dX6_write_40 : decode cX6_write 40 = .ok (.getfield 48, 3) := by decide +kernel
theorem dX6_write_43 : decode cX6_write 43 = .ok (.iconst 1, 1) := by decide +kernel
theorem dX6_write_44 : decode cX6_write 44 = .ok (.iadd, 1) := by decide +kernel
theorem dX6_write_45 : decode cX6_write 45 = .ok (.putfield 48, 3) := by decide +kernel
theorem dX6_write_48 : decode cX6_write 48 = .ok (.aload_n 0, 1) := by decide +kernel
theorem dX6_write_49 : decode cX6_write 49 = .ok (.getfield 48, 3) := by decide +kernel
theorem dX6_write_52 : decode cX6_write 52 = .ok (.ireturn, 1) := by decide +kernel
theorem dX6_wipe_0 : decode cX6_wipe 0 = .ok (.aload_n 0, 1) := by decide +kernel
theorem dX6_wipe_1 : decode cX6_wipe 1 = .ok (.getfield 48, 3) := by decide +kernel
theorem dX6_wipe_4 : decode cX6_wipe 4 = .ok (.istore_n 1, 1) := by decide +kernel
theorem dX6_wipe_5 : decode cX6_wipe 5 = .ok (.aload_n 0, 1) := by decide +kernel
theorem dX6_wipe_6 : decode cX6_wipe 6 = .ok (.iconst 0, 1) := by decide +kernel
theorem dX6_wipe_7 : decode cX6_wipe 7 = .ok (.putfield 48, 3) := by decide +kernel
theorem dX6_wipe_10 : decode cX6_wipe 10 = .ok (.iload_n 1, 1) := by decide +kernel
theorem dX6_wipe_11 : decode cX6_wipe 11 = .ok (.ireturn, 1) := by decide +kernel
theorem dX6_fault_0 : decode cX6_fault 0 = .ok (.aload_n 0, 1) := by decide +kernel
theorem dX6_fault_1 : decode cX6_fault 1 = .ok (.getfield 28, 3) := by decide +kernel
theorem dX6_fault_4 : decode cX6_fault 4 = .ok (.aload_n 0, 1) := by decide +kernel
theorem dX6_fault_5 : decode cX6_fault 5 = .ok (.getfield 48, 3) := by decide +kernel
theorem dX6_fault_8 : decode cX6_fault 8 = .ok (.invokevirtual 56, 3) := by decide +kernel
theorem dX6_fault_11 : decode cX6_fault 11 = .ok (.ireturn, 1) := by decide +kernel
theorem dX6_lay_0 : decode cX6_lay 0 = .ok (.aload_n 0, 1) := by decide +kernel
theorem dX6_lay_1 : decode cX6_lay 1 = .ok (.invokevirtual 52, 3) := by decide +kernel
theorem dX6_lay_4 : decode cX6_lay 4 = .ok (.ifCond .eq 13, 3) := by decide +kernel
theorem dX6_lay_7 : decode cX6_lay 7 = .ok (.aload_n 0, 1) := by decide +kernel
theorem dX6_lay_8 : decode cX6_lay 8 = .ok (.getfield 16, 3) := by decide +kernel
theorem dX6_lay_11 : decode cX6_lay 11 = .ok (.getfield 60, 3) := by decide +kernel
theorem dX6_lay_14 : decode cX6_lay 14 = .ok (.goto 5, 3) := by decide +kernel
theorem dX6_lay_17 : decode cX6_lay 17 = .ok (.bipush (-2), 2) := by decide +kernel
theorem dX6_lay_19 : decode cX6_lay 19 = .ok (.ireturn, 1) := by decide +kernel
theorem dX6_letter_0 : decode cX6_letter 0 = .ok (.aload_n 0, 1) := by decide +kernel
theorem dX6_letter_1 : decode cX6_letter 1 = .ok (.iload_n 1, 1) := by decide +kernel
theorem dX6_letter_2 : decode cX6_letter 2 = .ok (.iload_n 2, 1) := by decide +kernel
theorem dX6_letter_3 : decode cX6_letter 3 = .ok (.invokevirtual 63, 3) := by decide +kernel
theorem dX6_letter_6 : decode cX6_letter 6 = .ok (.ifCond .eq 14, 3) := by decide +kernel
theorem dX6_letter_9 : decode cX6_letter 9 = .ok (.iload_n 3, 1) := by decide +kernel
theorem dX6_letter_10 : decode cX6_letter 10 = .ok (.iconst 1, 1) := by decide +kernel
theorem dX6_letter_11 : decode cX6_letter 11 = .ok (.if_icmp .lt 9, 3) := by decide +kernel
theorem dX6_letter_14 : decode cX6_letter 14 = .ok (.iload_n 3, 1) := by decide +kernel
theorem dX6_letter_15 : decode cX6_letter 15 = .ok (.bipush 9, 2) := by decide +kernel
theorem dX6_letter_17 : decode cX6_letter 17 = .ok (.if_icmp .le 5, 3) := by decide +kernel
theorem dX6_letter_20 : decode cX6_letter 20 = .ok (.iconst (-1), 1) := by decide +kernel
theorem dX6_letter_21 : decode cX6_letter 21 = .ok (.ireturn, 1) := by decide +kernel
theorem dX6_letter_22 : decode cX6_letter 22 = .ok (.aload_n 0, 1) := by decide +kernel
theorem dX6_letter_23 : decode cX6_letter 23 = .ok (.getfield 16, 3) := by decide +kernel
theorem dX6_letter_26 : decode cX6_letter 26 = .ok (.iload_n 1, 1) := by decide +kernel
theorem dX6_letter_27 : decode cX6_letter 27 = .ok (.iload_n 2, 1) := by decide +kernel
theorem dX6_letter_28 : decode cX6_letter 28 = .ok (.invokevirtual 67, 3) := by decide +kernel
theorem dX6_letter_31 : decode cX6_letter 31 = .ok (.ifCond .ne 6, 3) := by decide +kernel
theorem dX6_letter_34 : decode cX6_letter 34 = .ok (.bipush (-2), 2) := by decide +kernel
theorem dX6_letter_36 : decode cX6_letter 36 = .ok (.ireturn, 1) := by decide +kernel
theorem dX6_letter_37 : decode cX6_letter 37 = .ok (.aload_n 0, 1) := by decide +kernel
theorem dX6_letter_38 : decode cX6_letter 38 = .ok (.getfield 16, 3) := by decide +kernel
theorem dX6_letter_41 : decode cX6_letter 41 = .ok (.getfield 70, 3) := by decide +kernel
theorem dX6_letter_44 : decode cX6_letter 44 = .ok (.iload_n 1, 1) := by decide +kernel
theorem dX6_letter_45 : decode cX6_letter 45 = .ok (.aaload, 1) := by decide +kernel
theorem dX6_letter_46 : decode cX6_letter 46 = .ok (.astore 4, 2) := by decide +kernel
theorem dX6_letter_48 : decode cX6_letter 48 = .ok (.aload 4, 2) := by decide +kernel
theorem dX6_letter_50 : decode cX6_letter 50 = .ok (.getfield 74, 3) := by decide +kernel
theorem dX6_letter_53 : decode cX6_letter 53 = .ok (.getfield 80, 3) := by decide +kernel
theorem dX6_letter_56 : decode cX6_letter 56 = .ok (.bipush 6, 2) := by decide +kernel
theorem dX6_letter_58 : decode cX6_letter 58 = .ok (.if_icmp .lt 6, 3) := by decide +kernel
theorem dX6_letter_61 : decode cX6_letter 61 = .ok (.bipush (-3), 2) := by decide +kernel
theorem dX6_letter_63 : decode cX6_letter 63 = .ok (.ireturn, 1) := by decide +kernel
theorem dX6_letter_64 : decode cX6_letter 64 = .ok (.aload_n 0, 1) := by decide +kernel
theorem dX6_letter_65 : decode cX6_letter 65 = .ok (.invokevirtual 85, 3) := by decide +kernel
theorem dX6_letter_68 : decode cX6_letter 68 = .ok (.aload 4, 2) := by decide +kernel
theorem dX6_letter_70 : decode cX6_letter 70 = .ok (.getfield 74, 3) := by decide +kernel
theorem dX6_letter_73 : decode cX6_letter 73 = .ok (.iload_n 2, 1) := by decide +kernel
theorem dX6_letter_74 : decode cX6_letter 74 = .ok (.iload_n 3, 1) := by decide +kernel
theorem dX6_letter_75 : decode cX6_letter 75 = .ok (.invokevirtual 88, 3) := by decide +kernel
theorem dX6_letter_78 : decode cX6_letter 78 = .ok (.aload 4, 2) := by decide +kernel
theorem dX6_letter_80 : decode cX6_letter 80 = .ok (.getfield 74, 3) := by decide +kernel
theorem dX6_letter_83 : decode cX6_letter 83 = .ok (.getfield 80, 3) := by decide +kernel
theorem dX6_letter_86 : decode cX6_letter 86 = .ok (.iconst 1, 1) := by decide +kernel
theorem dX6_letter_87 : decode cX6_letter 87 = .ok (.if_icmp .ne 11, 3) := by decide +kernel
theorem dX6_letter_90 : decode cX6_letter 90 = .ok (.aload_n 0, 1) := by decide +kernel
theorem dX6_letter_91 : decode cX6_letter 91 = .ok (.getfield 16, 3) := by decide +kernel
theorem dX6_letter_94 : decode cX6_letter 94 = .ok (.iload_n 1, 1) := by decide +kernel
theorem dX6_letter_95 : decode cX6_letter 95 = .ok (.invokevirtual 92, 3) := by decide +kernel
theorem dX6_letter_98 : decode cX6_letter 98 = .ok (.aload 4, 2) := by decide +kernel
theorem dX6_letter_100 : decode cX6_letter 100 = .ok (.getfield 74, 3) := by decide +kernel
theorem dX6_letter_103 : decode cX6_letter 103 = .ok (.getfield 80, 3) := by decide +kernel
theorem dX6_letter_106 : decode cX6_letter 106 = .ok (.ireturn, 1) := by decide +kernel
theorem dX6_hear_0 : decode cX6_hear 0 = .ok (.aload_n 0, 1) := by decide +kernel
theorem dX6_hear_1 : decode cX6_hear 1 = .ok (.iload_n 1, 1) := by decide +kernel
theorem dX6_hear_2 : decode cX6_hear 2 = .ok (.iload_n 2, 1) := by decide +kernel
theorem dX6_hear_3 : decode cX6_hear 3 = .ok (.invokevirtual 63, 3) := by decide +kernel
theorem dX6_hear_6 : decode cX6_hear 6 = .ok (.ifCond .eq 12, 3) := by decide +kernel
theorem dX6_hear_9 : decode cX6_hear 9 = .ok (.iload_n 3, 1) := by decide +kernel
theorem dX6_hear_10 : decode cX6_hear 10 = .ok (.ifCond .lt 8, 3) := by decide +kernel
theorem dX6_hear_13 : decode cX6_hear 13 = .ok (.iload_n 3, 1) := by decide +kernel
theorem dX6_hear_14 : decode cX6_hear 14 = .ok (.iconst 1, 1) := by decide +kernel
theorem dX6_hear_15 : decode cX6_hear 15 = .ok (.if_icmp .le 5, 3) := by decide +kernel
theorem dX6_hear_18 : decode cX6_hear 18 = .ok (.iconst (-1), 1) := by decide +kernel
theorem dX6_hear_19 : decode cX6_hear 19 = .ok (.ireturn, 1) := by decide +kernel
theorem dX6_hear_20 : decode cX6_hear 20 = .ok (.iload_n 3, 1) := by decide +kernel
theorem dX6_hear_21 : decode cX6_hear 21 = .ok (.iconst 1, 1) := by decide +kernel
theorem dX6_hear_22 : decode cX6_hear 22 = .ok (.if_icmp .ne 7, 3) := by decide +kernel
theorem dX6_hear_25 : decode cX6_hear 25 = .ok (.iconst 1, 1) := by decide +kernel
theorem dX6_hear_26 : decode cX6_hear 26 = .ok (.goto 4, 3) := by decide +kernel
theorem dX6_hear_29 : decode cX6_hear 29 = .ok (.iconst 0, 1) := by decide +kernel
theorem dX6_hear_30 : decode cX6_hear 30 = .ok (.istore 4, 2) := by decide +kernel
theorem dX6_hear_32 : decode cX6_hear 32 = .ok (.aload_n 0, 1) := by decide +kernel
theorem dX6_hear_33 : decode cX6_hear 33 = .ok (.getfield 16, 3) := by decide +kernel
theorem dX6_hear_36 : decode cX6_hear 36 = .ok (.iload_n 1, 1) := by decide +kernel
theorem dX6_hear_37 : decode cX6_hear 37 = .ok (.iload_n 2, 1) := by decide +kernel
theorem dX6_hear_38 : decode cX6_hear 38 = .ok (.invokevirtual 67, 3) := by decide +kernel
theorem dX6_hear_41 : decode cX6_hear 41 = .ok (.iload 4, 2) := by decide +kernel
theorem dX6_hear_43 : decode cX6_hear 43 = .ok (.if_icmp .ne 6, 3) := by decide +kernel
theorem dX6_hear_46 : decode cX6_hear 46 = .ok (.bipush (-2), 2) := by decide +kernel
theorem dX6_hear_48 : decode cX6_hear 48 = .ok (.ireturn, 1) := by decide +kernel
theorem dX6_hear_49 : decode cX6_hear 49 = .ok (.iload 4, 2) := by decide +kernel
theorem dX6_hear_51 : decode cX6_hear 51 = .ok (.ifCond .ne 44, 3) := by decide +kernel
theorem dX6_hear_54 : decode cX6_hear 54 = .ok (.aload_n 0, 1) := by decide +kernel
theorem dX6_hear_55 : decode cX6_hear 55 = .ok (.getfield 16, 3) := by decide +kernel
theorem dX6_hear_58 : decode cX6_hear 58 = .ok (.getfield 70, 3) := by decide +kernel
theorem dX6_hear_61 : decode cX6_hear 61 = .ok (.iload_n 1, 1) := by decide +kernel
theorem dX6_hear_62 : decode cX6_hear 62 = .ok (.aaload, 1) := by decide +kernel
theorem dX6_hear_63 : decode cX6_hear 63 = .ok (.getfield 74, 3) := by decide +kernel
theorem dX6_hear_66 : decode cX6_hear 66 = .ok (.iload_n 2, 1) := by decide +kernel
theorem dX6_hear_67 : decode cX6_hear 67 = .ok (.invokevirtual 96, 3) := by decide +kernel
theorem dX6_hear_70 : decode cX6_hear 70 = .ok (.ifCond .ne 22, 3) := by decide +kernel
theorem dX6_hear_73 : decode cX6_hear 73 = .ok (.aload_n 0, 1) := by decide +kernel
theorem dX6_hear_74 : decode cX6_hear 74 = .ok (.getfield 16, 3) := by decide +kernel
theorem dX6_hear_77 : decode cX6_hear 77 = .ok (.getfield 70, 3) := by decide +kernel
theorem dX6_hear_80 : decode cX6_hear 80 = .ok (.iload_n 2, 1) := by decide +kernel
theorem dX6_hear_81 : decode cX6_hear 81 = .ok (.aaload, 1) := by decide +kernel
theorem dX6_hear_82 : decode cX6_hear 82 = .ok (.getfield 74, 3) := by decide +kernel
theorem dX6_hear_85 : decode cX6_hear 85 = .ok (.iload_n 1, 1) := by decide +kernel
theorem dX6_hear_86 : decode cX6_hear 86 = .ok (.invokevirtual 96, 3) := by decide +kernel
theorem dX6_hear_89 : decode cX6_hear 89 = .ok (.ifCond .eq 6, 3) := by decide +kernel
theorem dX6_hear_92 : decode cX6_hear 92 = .ok (.bipush (-2), 2) := by decide +kernel
theorem dX6_hear_94 : decode cX6_hear 94 = .ok (.ireturn, 1) := by decide +kernel
theorem dX6_hear_95 : decode cX6_hear 95 = .ok (.aload_n 0, 1) := by decide +kernel
theorem dX6_hear_96 : decode cX6_hear 96 = .ok (.invokevirtual 85, 3) := by decide +kernel
theorem dX6_hear_99 : decode cX6_hear 99 = .ok (.aload_n 0, 1) := by decide +kernel
theorem dX6_hear_100 : decode cX6_hear 100 = .ok (.getfield 16, 3) := by decide +kernel
theorem dX6_hear_103 : decode cX6_hear 103 = .ok (.iload_n 1, 1) := by decide +kernel
theorem dX6_hear_104 : decode cX6_hear 104 = .ok (.iload_n 2, 1) := by decide +kernel
theorem dX6_hear_105 : decode cX6_hear 105 = .ok (.iload 4, 2) := by decide +kernel
theorem dX6_hear_107 : decode cX6_hear 107 = .ok (.invokevirtual 100, 3) := by decide +kernel
theorem dX6_hear_110 : decode cX6_hear 110 = .ok (.aload_n 0, 1) := by decide +kernel
theorem dX6_hear_111 : decode cX6_hear 111 = .ok (.getfield 16, 3) := by decide +kernel
theorem dX6_hear_114 : decode cX6_hear 114 = .ok (.iconst 0, 1) := by decide +kernel
theorem dX6_hear_115 : decode cX6_hear 115 = .ok (.invokevirtual 104, 3) := by decide +kernel
theorem dX6_hear_118 : decode cX6_hear 118 = .ok (.ireturn, 1) := by decide +kernel
theorem dX6_draws_0 : decode cX6_draws 0 = .ok (.iload_n 1, 1) := by decide +kernel
theorem dX6_draws_1 : decode cX6_draws 1 = .ok (.ifCond .lt 10, 3) := by decide +kernel
theorem dX6_draws_4 : decode cX6_draws 4 = .ok (.iload_n 1, 1) := by decide +kernel
theorem dX6_draws_5 : decode cX6_draws 5 = .ok (.sipush 9999, 3) := by decide +kernel
theorem dX6_draws_8 : decode cX6_draws 8 = .ok (.if_icmp .le 5, 3) := by decide +kernel
theorem dX6_draws_11 : decode cX6_draws 11 = .ok (.iconst (-1), 1) := by decide +kernel
theorem dX6_draws_12 : decode cX6_draws 12 = .ok (.ireturn, 1) := by decide +kernel
theorem dX6_draws_13 : decode cX6_draws 13 = .ok (.iload_n 1, 1) := by decide +kernel
theorem dX6_draws_14 : decode cX6_draws 14 = .ok (.aload_n 0, 1) := by decide +kernel
theorem dX6_draws_15 : decode cX6_draws 15 = .ok (.getfield 16, 3) := by decide +kernel
theorem dX6_draws_18 : decode cX6_draws 18 = .ok (.getfield 107, 3) := by decide +kernel
theorem dX6_draws_21 : decode cX6_draws 21 = .ok (.if_icmp .ne 6, 3) := by decide +kernel
theorem dX6_draws_24 : decode cX6_draws 24 = .ok (.bipush (-2), 2) := by decide +kernel
theorem dX6_draws_26 : decode cX6_draws 26 = .ok (.ireturn, 1) := by decide +kernel
theorem dX6_draws_27 : decode cX6_draws 27 = .ok (.aload_n 0, 1) := by decide +kernel
theorem dX6_draws_28 : decode cX6_draws 28 = .ok (.invokevirtual 85, 3) := by decide +kernel
theorem dX6_draws_31 : decode cX6_draws 31 = .ok (.aload_n 0, 1) := by decide +kernel
theorem dX6_draws_32 : decode cX6_draws 32 = .ok (.getfield 16, 3) := by decide +kernel
theorem dX6_draws_35 : decode cX6_draws 35 = .ok (.getfield 107, 3) := by decide +kernel
theorem dX6_draws_38 : decode cX6_draws 38 = .ok (.istore_n 2, 1) := by decide +kernel
theorem dX6_draws_39 : decode cX6_draws 39 = .ok (.aload_n 0, 1) := by decide +kernel
theorem dX6_draws_40 : decode cX6_draws 40 = .ok (.getfield 16, 3) := by decide +kernel
theorem dX6_draws_43 : decode cX6_draws 43 = .ok (.iload_n 1, 1) := by decide +kernel
theorem dX6_draws_44 : decode cX6_draws 44 = .ok (.putfield 107, 3) := by decide +kernel
theorem dX6_draws_47 : decode cX6_draws 47 = .ok (.iload_n 2, 1) := by decide +kernel
theorem dX6_draws_48 : decode cX6_draws 48 = .ok (.ireturn, 1) := by decide +kernel
theorem dX6_slot_0 : decode cX6_slot 0 = .ok (.iload_n 1, 1) := by decide +kernel
theorem dX6_slot_1 : decode cX6_slot 1 = .ok (.iconst 1, 1) := by decide +kernel
theorem dX6_slot_2 : decode cX6_slot 2 = .ok (.if_icmp .lt 9, 3) := by decide +kernel
theorem dX6_slot_5 : decode cX6_slot 5 = .ok (.iload_n 1, 1) := by decide +kernel
theorem dX6_slot_6 : decode cX6_slot 6 = .ok (.bipush 99, 2) := by decide +kernel
theorem dX6_slot_8 : decode cX6_slot 8 = .ok (.if_icmp .le 5, 3) := by decide +kernel
theorem dX6_slot_11 : decode cX6_slot 11 = .ok (.iconst (-1), 1) := by decide +kernel
theorem dX6_slot_12 : decode cX6_slot 12 = .ok (.ireturn, 1) := by decide +kernel
theorem dX6_slot_13 : decode cX6_slot 13 = .ok (.aload_n 0, 1) := by decide +kernel
theorem dX6_slot_14 : decode cX6_slot 14 = .ok (.getfield 16, 3) := by decide +kernel
theorem dX6_slot_17 : decode cX6_slot 17 = .ok (.getfield 110, 3) := by decide +kernel
theorem dX6_slot_20 : decode cX6_slot 20 = .ok (.iload_n 1, 1) := by decide +kernel
theorem dX6_slot_21 : decode cX6_slot 21 = .ok (.iadd, 1) := by decide +kernel
theorem dX6_slot_22 : decode cX6_slot 22 = .ok (.sipush 9999, 3) := by decide +kernel
theorem dX6_slot_25 : decode cX6_slot 25 = .ok (.if_icmp .le 6, 3) := by decide +kernel
theorem dX6_slot_28 : decode cX6_slot 28 = .ok (.bipush (-2), 2) := by decide +kernel
theorem dX6_slot_30 : decode cX6_slot 30 = .ok (.ireturn, 1) := by decide +kernel
theorem dX6_slot_31 : decode cX6_slot 31 = .ok (.aload_n 0, 1) := by decide +kernel
theorem dX6_slot_32 : decode cX6_slot 32 = .ok (.invokevirtual 85, 3) := by decide +kernel
theorem dX6_slot_35 : decode cX6_slot 35 = .ok (.aload_n 0, 1) := by decide +kernel
theorem dX6_slot_36 : decode cX6_slot 36 = .ok (.getfield 16, 3) := by decide +kernel
theorem dX6_slot_39 : decode cX6_slot 39 = .ok (.iconst 1, 1) := by decide +kernel
theorem dX6_slot_40 : decode cX6_slot 40 = .ok (.invokevirtual 113, 3) := by decide +kernel
theorem dX6_slot_43 : decode cX6_slot 43 = .ok (.istore_n 2, 1) := by decide +kernel
theorem dX6_slot_44 : decode cX6_slot 44 = .ok (.aload_n 0, 1) := by decide +kernel
theorem dX6_slot_45 : decode cX6_slot 45 = .ok (.getfield 16, 3) := by decide +kernel
theorem dX6_slot_48 : decode cX6_slot 48 = .ok (.iload_n 1, 1) := by decide +kernel
theorem dX6_slot_49 : decode cX6_slot 49 = .ok (.invokevirtual 116, 3) := by decide +kernel
theorem dX6_slot_52 : decode cX6_slot 52 = .ok (.aload_n 0, 1) := by decide +kernel
theorem dX6_slot_53 : decode cX6_slot 53 = .ok (.getfield 16, 3) := by decide +kernel
theorem dX6_slot_56 : decode cX6_slot 56 = .ok (.iconst 1, 1) := by decide +kernel
theorem dX6_slot_57 : decode cX6_slot 57 = .ok (.invokevirtual 113, 3) := by decide +kernel
theorem dX6_slot_60 : decode cX6_slot 60 = .ok (.iload_n 2, 1) := by decide +kernel
theorem dX6_slot_61 : decode cX6_slot 61 = .ok (.isub, 1) := by decide +kernel
theorem dX6_slot_62 : decode cX6_slot 62 = .ok (.ireturn, 1) := by decide +kernel
theorem dX6_undo_0 : decode cX6_undo 0 = .ok (.aload_n 0, 1) := by decide +kernel
theorem dX6_undo_1 : decode cX6_undo 1 = .ok (.getfield 119, 3) := by decide +kernel
theorem dX6_undo_4 : decode cX6_undo 4 = .ok (.iconst 1, 1) := by decide +kernel
theorem dX6_undo_5 : decode cX6_undo 5 = .ok (.if_icmp .ge 6, 3) := by decide +kernel
theorem dX6_undo_8 : decode cX6_undo 8 = .ok (.bipush (-2), 2) := by decide +kernel
theorem dX6_undo_10 : decode cX6_undo 10 = .ok (.ireturn, 1) := by decide +kernel
theorem dX6_undo_11 : decode cX6_undo 11 = .ok (.aload_n 0, 1) := by decide +kernel
theorem dX6_undo_12 : decode cX6_undo 12 = .ok (.aload_n 0, 1) := by decide +kernel
theorem dX6_undo_13 : decode cX6_undo 13 = .ok (.getfield 122, 3) := by decide +kernel
theorem dX6_undo_16 : decode cX6_undo 16 = .ok (.ifCond .ne 7, 3) := by decide +kernel
theorem dX6_undo_19 : decode cX6_undo 19 = .ok (.iconst 3, 1) := by decide +kernel
theorem dX6_undo_20 : decode cX6_undo 20 = .ok (.goto 9, 3) := by decide +kernel
theorem dX6_undo_23 : decode cX6_undo 23 = .ok (.aload_n 0, 1) := by decide +kernel
theorem dX6_undo_24 : decode cX6_undo 24 = .ok (.getfield 122, 3) := by decide +kernel
theorem dX6_undo_27 : decode cX6_undo 27 = .ok (.iconst 1, 1) := by decide +kernel
theorem dX6_undo_28 : decode cX6_undo 28 = .ok (.isub, 1) := by decide +kernel
theorem dX6_undo_29 : decode cX6_undo 29 = .ok (.putfield 122, 3) := by decide +kernel
theorem dX6_undo_32 : decode cX6_undo 32 = .ok (.aload_n 0, 1) := by decide +kernel
theorem dX6_undo_33 : decode cX6_undo 33 = .ok (.dup, 1) := by decide +kernel
theorem dX6_undo_34 : decode cX6_undo 34 = .ok (.getfield 119, 3) := by decide +kernel
theorem dX6_undo_37 : decode cX6_undo 37 = .ok (.iconst 1, 1) := by decide +kernel
theorem dX6_undo_38 : decode cX6_undo 38 = .ok (.isub, 1) := by decide +kernel
theorem dX6_undo_39 : decode cX6_undo 39 = .ok (.putfield 119, 3) := by decide +kernel
theorem dX6_undo_42 : decode cX6_undo 42 = .ok (.aload_n 0, 1) := by decide +kernel
theorem dX6_undo_43 : decode cX6_undo 43 = .ok (.getfield 16, 3) := by decide +kernel
theorem dX6_undo_46 : decode cX6_undo 46 = .ok (.aload_n 0, 1) := by decide +kernel
theorem dX6_undo_47 : decode cX6_undo 47 = .ok (.getfield 32, 3) := by decide +kernel
theorem dX6_undo_50 : decode cX6_undo 50 = .ok (.aload_n 0, 1) := by decide +kernel
theorem dX6_undo_51 : decode cX6_undo 51 = .ok (.getfield 122, 3) := by decide +kernel
theorem dX6_undo_54 : decode cX6_undo 54 = .ok (.aaload, 1) := by decide +kernel
theorem dX6_undo_55 : decode cX6_undo 55 = .ok (.invokevirtual 125, 3) := by decide +kernel
theorem dX6_undo_58 : decode cX6_undo 58 = .ok (.aload_n 0, 1) := by decide +kernel
theorem dX6_undo_59 : decode cX6_undo 59 = .ok (.getfield 119, 3) := by decide +kernel
theorem dX6_undo_62 : decode cX6_undo 62 = .ok (.ireturn, 1) := by decide +kernel
theorem dX6_station_0 : decode cX6_station 0 = .ok (.aload_n 0, 1) := by decide +kernel
theorem dX6_station_1 : decode cX6_station 1 = .ok (.iload_n 1, 1) := by decide +kernel
theorem dX6_station_2 : decode cX6_station 2 = .ok (.invokevirtual 129, 3) := by decide +kernel
theorem dX6_station_5 : decode cX6_station 5 = .ok (.ifCond .ne 5, 3) := by decide +kernel
theorem dX6_station_8 : decode cX6_station 8 = .ok (.iconst (-1), 1) := by decide +kernel
theorem dX6_station_9 : decode cX6_station 9 = .ok (.ireturn, 1) := by decide +kernel
theorem dX6_station_10 : decode cX6_station 10 = .ok (.aload_n 0, 1) := by decide +kernel
theorem dX6_station_11 : decode cX6_station 11 = .ok (.getfield 16, 3) := by decide +kernel
theorem dX6_station_14 : decode cX6_station 14 = .ok (.getfield 70, 3) := by decide +kernel
theorem dX6_station_17 : decode cX6_station 17 = .ok (.iload_n 1, 1) := by decide +kernel
theorem dX6_station_18 : decode cX6_station 18 = .ok (.aaload, 1) := by decide +kernel
theorem dX6_station_19 : decode cX6_station 19 = .ok (.astore_n 3, 1) := by decide +kernel
theorem dX6_station_20 : decode cX6_station 20 = .ok (.iload_n 2, 1) := by decide +kernel
theorem dX6_station_21 : decode cX6_station 21 = .ok (.tableswitch 153 0 11 #[63, 71, 76, 81, 101, 106, 111, 116, 121, 126, 135, 140], 63) := by decide +kernel
theorem dX6_station_84 : decode cX6_station 84 = .ok (.aload_n 3, 1) := by decide +kernel
theorem dX6_station_85 : decode cX6_station 85 = .ok (.getfield 74, 3) := by decide +kernel
theorem dX6_station_88 : decode cX6_station 88 = .ok (.getfield 80, 3) := by decide +kernel
theorem dX6_station_91 : decode cX6_station 91 = .ok (.ireturn, 1) := by decide +kernel
theorem dX6_station_92 : decode cX6_station 92 = .ok (.aload_n 3, 1) := by decide +kernel
theorem dX6_station_93 : decode cX6_station 93 = .ok (.getfield 132, 3) := by decide +kernel
theorem dX6_station_96 : decode cX6_station 96 = .ok (.ireturn, 1) := by decide +kernel
theorem dX6_station_97 : decode cX6_station 97 = .ok (.aload_n 3, 1) := by decide +kernel
theorem dX6_station_98 : decode cX6_station 98 = .ok (.getfield 135, 3) := by decide +kernel
theorem dX6_station_101 : decode cX6_station 101 = .ok (.ireturn, 1) := by decide +kernel
theorem dX6_station_102 : decode cX6_station 102 = .ok (.aload_n 3, 1) := by decide +kernel
theorem dX6_station_103 : decode cX6_station 103 = .ok (.getfield 74, 3) := by decide +kernel
theorem dX6_station_106 : decode cX6_station 106 = .ok (.getfield 80, 3) := by decide +kernel
theorem dX6_station_109 : decode cX6_station 109 = .ok (.ifCond .ne 8, 3) := by decide +kernel
theorem dX6_station_112 : decode cX6_station 112 = .ok (.bipush (-4), 2) := by decide +kernel
theorem dX6_station_114 : decode cX6_station 114 = .ok (.goto 7, 3) := by decide +kernel
theorem dX6_station_117 : decode cX6_station 117 = .ok (.aload_n 3, 1) := by decide +kernel
theorem dX6_station_118 : decode cX6_station 118 = .ok (.getfield 138, 3) := by decide +kernel
theorem dX6_station_121 : decode cX6_station 121 = .ok (.ireturn, 1) := by decide +kernel
theorem dX6_station_122 : decode cX6_station 122 = .ok (.aload_n 3, 1) := by decide +kernel
theorem dX6_station_123 : decode cX6_station 123 = .ok (.getfield 141, 3) := by decide +kernel
theorem dX6_station_126 : decode cX6_station 126 = .ok (.ireturn, 1) := by decide +kernel
theorem dX6_station_127 : decode cX6_station 127 = .ok (.aload_n 3, 1) := by decide +kernel
theorem dX6_station_128 : decode cX6_station 128 = .ok (.getfield 144, 3) := by decide +kernel
theorem dX6_station_131 : decode cX6_station 131 = .ok (.ireturn, 1) := by decide +kernel
theorem dX6_station_132 : decode cX6_station 132 = .ok (.aload_n 3, 1) := by decide +kernel
theorem dX6_station_133 : decode cX6_station 133 = .ok (.getfield 147, 3) := by decide +kernel
theorem dX6_station_136 : decode cX6_station 136 = .ok (.ireturn, 1) := by decide +kernel
theorem dX6_station_137 : decode cX6_station 137 = .ok (.aload_n 3, 1) := by decide +kernel
theorem dX6_station_138 : decode cX6_station 138 = .ok (.getfield 150, 3) := by decide +kernel
theorem dX6_station_141 : decode cX6_station 141 = .ok (.ireturn, 1) := by decide +kernel
theorem dX6_station_142 : decode cX6_station 142 = .ok (.aload_n 3, 1) := by decide +kernel
theorem dX6_station_143 : decode cX6_station 143 = .ok (.getfield 153, 3) := by decide +kernel
theorem dX6_station_146 : decode cX6_station 146 = .ok (.ireturn, 1) := by decide +kernel
theorem dX6_station_147 : decode cX6_station 147 = .ok (.aload_n 0, 1) := by decide +kernel
theorem dX6_station_148 : decode cX6_station 148 = .ok (.getfield 16, 3) := by decide +kernel
theorem dX6_station_151 : decode cX6_station 151 = .ok (.aload_n 3, 1) := by decide +kernel
theorem dX6_station_152 : decode cX6_station 152 = .ok (.invokevirtual 156, 3) := by decide +kernel
theorem dX6_station_155 : decode cX6_station 155 = .ok (.ireturn, 1) := by decide +kernel
theorem dX6_station_156 : decode cX6_station 156 = .ok (.aload_n 3, 1) := by decide +kernel
theorem dX6_station_157 : decode cX6_station 157 = .ok (.getfield 160, 3) := by decide +kernel
theorem dX6_station_160 : decode cX6_station 160 = .ok (.ireturn, 1) := by decide +kernel
theorem dX6_station_161 : decode cX6_station 161 = .ok (.aload_n 3, 1) := by decide +kernel
theorem dX6_station_162 : decode cX6_station 162 = .ok (.getfield 162, 3) := by decide +kernel
theorem dX6_station_165 : decode cX6_station 165 = .ok (.ifCond .ne 7, 3) := by decide +kernel
theorem dX6_station_168 : decode cX6_station 168 = .ok (.iconst 0, 1) := by decide +kernel
theorem dX6_station_169 : decode cX6_station 169 = .ok (.goto 4, 3) := by decide +kernel
theorem dX6_station_172 : decode cX6_station 172 = .ok (.iconst 1, 1) := by decide +kernel
theorem dX6_station_173 : decode cX6_station 173 = .ok (.ireturn, 1) := by decide +kernel
theorem dX6_station_174 : decode cX6_station 174 = .ok (.iconst (-1), 1) := by decide +kernel
theorem dX6_station_175 : decode cX6_station 175 = .ok (.ireturn, 1) := by decide +kernel
theorem dX6_letterOf_0 : decode cX6_letterOf 0 = .ok (.aload_n 0, 1) := by decide +kernel
theorem dX6_letterOf_1 : decode cX6_letterOf 1 = .ok (.iload_n 1, 1) := by decide +kernel
theorem dX6_letterOf_2 : decode cX6_letterOf 2 = .ok (.invokevirtual 129, 3) := by decide +kernel
theorem dX6_letterOf_5 : decode cX6_letterOf 5 = .ok (.ifCond .eq 16, 3) := by decide +kernel
theorem dX6_letterOf_8 : decode cX6_letterOf 8 = .ok (.iload_n 2, 1) := by decide +kernel
theorem dX6_letterOf_9 : decode cX6_letterOf 9 = .ok (.ifCond .lt 12, 3) := by decide +kernel
theorem dX6_letterOf_12 : decode cX6_letterOf 12 = .ok (.iload_n 3, 1) := by decide +kernel
theorem dX6_letterOf_13 : decode cX6_letterOf 13 = .ok (.ifCond .lt 8, 3) := by decide +kernel
theorem dX6_letterOf_16 : decode cX6_letterOf 16 = .ok (.iload_n 3, 1) := by decide +kernel
theorem dX6_letterOf_17 : decode cX6_letterOf 17 = .ok (.iconst 3, 1) := by decide +kernel
theorem dX6_letterOf_18 : decode cX6_letterOf 18 = .ok (.if_icmp .le 5, 3) := by decide +kernel
theorem dX6_letterOf_21 : decode cX6_letterOf 21 = .ok (.iconst (-1), 1) := by decide +kernel
theorem dX6_letterOf_22 : decode cX6_letterOf 22 = .ok (.ireturn, 1) := by decide +kernel
theorem dX6_letterOf_23 : decode cX6_letterOf 23 = .ok (.aload_n 0, 1) := by decide +kernel
theorem dX6_letterOf_24 : decode cX6_letterOf 24 = .ok (.getfield 16, 3) := by decide +kernel
theorem dX6_letterOf_27 : decode cX6_letterOf 27 = .ok (.getfield 70, 3) := by decide +kernel
theorem dX6_letterOf_30 : decode cX6_letterOf 30 = .ok (.iload_n 1, 1) := by decide +kernel
theorem dX6_letterOf_31 : decode cX6_letterOf 31 = .ok (.aaload, 1) := by decide +kernel
theorem dX6_letterOf_32 : decode cX6_letterOf 32 = .ok (.astore 4, 2) := by decide +kernel
theorem dX6_letterOf_34 : decode cX6_letterOf 34 = .ok (.iload_n 2, 1) := by decide +kernel
theorem dX6_letterOf_35 : decode cX6_letterOf 35 = .ok (.aload 4, 2) := by decide +kernel
theorem dX6_letterOf_37 : decode cX6_letterOf 37 = .ok (.getfield 74, 3) := by decide +kernel
theorem dX6_letterOf_40 : decode cX6_letterOf 40 = .ok (.getfield 80, 3) := by decide +kernel
theorem dX6_letterOf_43 : decode cX6_letterOf 43 = .ok (.if_icmp .lt 6, 3) := by decide +kernel
theorem dX6_letterOf_46 : decode cX6_letterOf 46 = .ok (.bipush (-4), 2) := by decide +kernel
theorem dX6_letterOf_48 : decode cX6_letterOf 48 = .ok (.ireturn, 1) := by decide +kernel
theorem dX6_letterOf_49 : decode cX6_letterOf 49 = .ok (.iload_n 3, 1) := by decide +kernel
theorem dX6_letterOf_50 : decode cX6_letterOf 50 = .ok (.tableswitch 74 0 2 #[26, 37, 48], 26) := by decide +kernel
theorem dX6_letterOf_76 : decode cX6_letterOf 76 = .ok (.aload 4, 2) := by decide +kernel
theorem dX6_letterOf_78 : decode cX6_letterOf 78 = .ok (.getfield 74, 3) := by decide +kernel
theorem dX6_letterOf_81 : decode cX6_letterOf 81 = .ok (.getfield 165, 3) := by decide +kernel
theorem dX6_letterOf_84 : decode cX6_letterOf 84 = .ok (.iload_n 2, 1) := by decide +kernel
theorem dX6_letterOf_85 : decode cX6_letterOf 85 = .ok (.iaload, 1) := by decide +kernel
theorem dX6_letterOf_86 : decode cX6_letterOf 86 = .ok (.ireturn, 1) := by decide +kernel
theorem dX6_letterOf_87 : decode cX6_letterOf 87 = .ok (.aload 4, 2) := by decide +kernel
theorem dX6_letterOf_89 : decode cX6_letterOf 89 = .ok (.getfield 74, 3) := by decide +kernel
theorem dX6_letterOf_92 : decode cX6_letterOf 92 = .ok (.getfield 169, 3) := by decide +kernel
theorem dX6_letterOf_95 : decode cX6_letterOf 95 = .ok (.iload_n 2, 1) := by decide +kernel
theorem dX6_letterOf_96 : decode cX6_letterOf 96 = .ok (.iaload, 1) := by decide +kernel
theorem dX6_letterOf_97 : decode cX6_letterOf 97 = .ok (.ireturn, 1) := by decide +kernel
theorem dX6_letterOf_98 : decode cX6_letterOf 98 = .ok (.aload_n 0, 1) := by decide +kernel
theorem dX6_letterOf_99 : decode cX6_letterOf 99 = .ok (.getfield 16, 3) := by decide +kernel
theorem dX6_letterOf_102 : decode cX6_letterOf 102 = .ok (.aload 4, 2) := by decide +kernel
theorem dX6_letterOf_104 : decode cX6_letterOf 104 = .ok (.getfield 74, 3) := by decide +kernel
theorem dX6_letterOf_107 : decode cX6_letterOf 107 = .ok (.getfield 169, 3) := by decide +kernel
theorem dX6_letterOf_110 : decode cX6_letterOf 110 = .ok (.iload_n 2, 1) := by decide +kernel
theorem dX6_letterOf_111 : decode cX6_letterOf 111 = .ok (.iaload, 1) := by decide +kernel
theorem dX6_letterOf_112 : decode cX6_letterOf 112 = .ok (.invokevirtual 171, 3) := by decide +kernel
theorem dX6_letterOf_115 : decode cX6_letterOf 115 = .ok (.ifCond .eq 7, 3) := by decide +kernel
theorem dX6_letterOf_118 : decode cX6_letterOf 118 = .ok (.iconst 1, 1) := by decide +kernel
theorem dX6_letterOf_119 : decode cX6_letterOf 119 = .ok (.goto 4, 3) := by decide +kernel
theorem dX6_letterOf_122 : decode cX6_letterOf 122 = .ok (.iconst 0, 1) := by decide +kernel
theorem dX6_letterOf_123 : decode cX6_letterOf 123 = .ok (.ireturn, 1) := by decide +kernel
theorem dX6_letterOf_124 : decode cX6_letterOf 124 = .ok (.iload_n 2, 1) := by decide +kernel
theorem dX6_letterOf_125 : decode cX6_letterOf 125 = .ok (.ifCond .ne 11, 3) := by decide +kernel
theorem dX6_letterOf_128 : decode cX6_letterOf 128 = .ok (.aload 4, 2) := by decide +kernel
theorem dX6_letterOf_130 : decode cX6_letterOf 130 = .ok (.getfield 174, 3) := by decide +kernel
theorem dX6_letterOf_133 : decode cX6_letterOf 133 = .ok (.goto 4, 3) := by decide +kernel
theorem dX6_letterOf_136 : decode cX6_letterOf 136 = .ok (.iconst 0, 1) := by decide +kernel
theorem dX6_letterOf_137 : decode cX6_letterOf 137 = .ok (.ireturn, 1) := by decide +kernel
theorem dX6_overheard_0 : decode cX6_overheard 0 = .ok (.aload_n 0, 1) := by decide +kernel
theorem dX6_overheard_1 : decode cX6_overheard 1 = .ok (.iload_n 1, 1) := by decide +kernel
theorem dX6_overheard_2 : decode cX6_overheard 2 = .ok (.invokevirtual 129, 3) := by decide +kernel
theorem dX6_overheard_5 : decode cX6_overheard 5 = .ok (.ifCond .eq 16, 3) := by decide +kernel
theorem dX6_overheard_8 : decode cX6_overheard 8 = .ok (.iload_n 2, 1) := by decide +kernel
theorem dX6_overheard_9 : decode cX6_overheard 9 = .ok (.ifCond .lt 12, 3) := by decide +kernel
theorem dX6_overheard_12 : decode cX6_overheard 12 = .ok (.iload_n 3, 1) := by decide +kernel
theorem dX6_overheard_13 : decode cX6_overheard 13 = .ok (.ifCond .lt 8, 3) := by decide +kernel
theorem dX6_overheard_16 : decode cX6_overheard 16 = .ok (.iload_n 3, 1) := by decide +kernel
theorem dX6_overheard_17 : decode cX6_overheard 17 = .ok (.iconst 3, 1) := by decide +kernel
theorem dX6_overheard_18 : decode cX6_overheard 18 = .ok (.if_icmp .le 5, 3) := by decide +kernel
theorem dX6_overheard_21 : decode cX6_overheard 21 = .ok (.iconst (-1), 1) := by decide +kernel
theorem dX6_overheard_22 : decode cX6_overheard 22 = .ok (.ireturn, 1) := by decide +kernel
theorem dX6_overheard_23 : decode cX6_overheard 23 = .ok (.aload_n 0, 1) := by decide +kernel
theorem dX6_overheard_24 : decode cX6_overheard 24 = .ok (.getfield 16, 3) := by decide +kernel
theorem dX6_overheard_27 : decode cX6_overheard 27 = .ok (.getfield 70, 3) := by decide +kernel
theorem dX6_overheard_30 : decode cX6_overheard 30 = .ok (.iload_n 1, 1) := by decide +kernel
theorem dX6_overheard_31 : decode cX6_overheard 31 = .ok (.aaload, 1) := by decide +kernel
theorem dX6_overheard_32 : decode cX6_overheard 32 = .ok (.getfield 177, 3) := by decide +kernel
theorem dX6_overheard_35 : decode cX6_overheard 35 = .ok (.iload_n 2, 1) := by decide +kernel
theorem dX6_overheard_36 : decode cX6_overheard 36 = .ok (.iload_n 3, 1) := by decide +kernel
theorem dX6_overheard_37 : decode cX6_overheard 37 = .ok (.invokevirtual 181, 3) := by decide +kernel
theorem dX6_overheard_40 : decode cX6_overheard 40 = .ok (.ireturn, 1) := by decide +kernel
theorem dX6_pair_0 : decode cX6_pair 0 = .ok (.aload_n 0, 1) := by decide +kernel
theorem dX6_pair_1 : decode cX6_pair 1 = .ok (.iload_n 1, 1) := by decide +kernel
theorem dX6_pair_2 : decode cX6_pair 2 = .ok (.iload_n 2, 1) := by decide +kernel
theorem dX6_pair_3 : decode cX6_pair 3 = .ok (.invokevirtual 63, 3) := by decide +kernel
theorem dX6_pair_6 : decode cX6_pair 6 = .ok (.ifCond .eq 15, 3) := by decide +kernel
theorem dX6_pair_9 : decode cX6_pair 9 = .ok (.aload_n 0, 1) := by decide +kernel
theorem dX6_pair_10 : decode cX6_pair 10 = .ok (.getfield 16, 3) := by decide +kernel
theorem dX6_pair_13 : decode cX6_pair 13 = .ok (.iload_n 1, 1) := by decide +kernel
theorem dX6_pair_14 : decode cX6_pair 14 = .ok (.iload_n 2, 1) := by decide +kernel
theorem dX6_pair_15 : decode cX6_pair 15 = .ok (.invokevirtual 187, 3) := by decide +kernel
theorem dX6_pair_18 : decode cX6_pair 18 = .ok (.goto 4, 3) := by decide +kernel
theorem dX6_pair_21 : decode cX6_pair 21 = .ok (.iconst (-1), 1) := by decide +kernel
theorem dX6_pair_22 : decode cX6_pair 22 = .ok (.ireturn, 1) := by decide +kernel
theorem dX6_draw_0 : decode cX6_draw 0 = .ok (.aload_n 0, 1) := by decide +kernel
theorem dX6_draw_1 : decode cX6_draw 1 = .ok (.iload_n 1, 1) := by decide +kernel
theorem dX6_draw_2 : decode cX6_draw 2 = .ok (.invokevirtual 129, 3) := by decide +kernel
theorem dX6_draw_5 : decode cX6_draw 5 = .ok (.ifCond .eq 14, 3) := by decide +kernel
theorem dX6_draw_8 : decode cX6_draw 8 = .ok (.iload_n 2, 1) := by decide +kernel
theorem dX6_draw_9 : decode cX6_draw 9 = .ok (.ifCond .lt 10, 3) := by decide +kernel
theorem dX6_draw_12 : decode cX6_draw 12 = .ok (.iload_n 2, 1) := by decide +kernel
theorem dX6_draw_13 : decode cX6_draw 13 = .ok (.sipush 999, 3) := by decide +kernel
theorem dX6_draw_16 : decode cX6_draw 16 = .ok (.if_icmp .le 5, 3) := by decide +kernel
theorem dX6_draw_19 : decode cX6_draw 19 = .ok (.iconst (-1), 1) := by decide +kernel
theorem dX6_draw_20 : decode cX6_draw 20 = .ok (.ireturn, 1) := by decide +kernel
theorem dX6_draw_21 : decode cX6_draw 21 = .ok (.aload_n 0, 1) := by decide +kernel
theorem dX6_draw_22 : decode cX6_draw 22 = .ok (.getfield 16, 3) := by decide +kernel
theorem dX6_draw_25 : decode cX6_draw 25 = .ok (.getfield 107, 3) := by decide +kernel
theorem dX6_draw_28 : decode cX6_draw 28 = .ok (.iload_n 1, 1) := by decide +kernel
theorem dX6_draw_29 : decode cX6_draw 29 = .ok (.iload_n 2, 1) := by decide +kernel
theorem dX6_draw_30 : decode cX6_draw 30 = .ok (.invokestatic 190, 3) := by decide +kernel
theorem dX6_draw_33 : decode cX6_draw 33 = .ok (.ireturn, 1) := by decide +kernel
theorem dX6_took_0 : decode cX6_took 0 = .ok (.iload_n 1, 1) := by decide +kernel
theorem dX6_took_1 : decode cX6_took 1 = .ok (.iconst 1, 1) := by decide +kernel
theorem dX6_took_2 : decode cX6_took 2 = .ok (.if_icmp .lt 18, 3) := by decide +kernel
theorem dX6_took_5 : decode cX6_took 5 = .ok (.iload_n 1, 1) := by decide +kernel
theorem dX6_took_6 : decode cX6_took 6 = .ok (.bipush 9, 2) := by decide +kernel
theorem dX6_took_8 : decode cX6_took 8 = .ok (.if_icmp .gt 12, 3) := by decide +kernel
theorem dX6_took_11 : decode cX6_took 11 = .ok (.iload_n 2, 1) := by decide +kernel
theorem dX6_took_12 : decode cX6_took 12 = .ok (.ifCond .lt 8, 3) := by decide +kernel
theorem dX6_took_15 : decode cX6_took 15 = .ok (.iload_n 2, 1) := by decide +kernel
theorem dX6_took_16 : decode cX6_took 16 = .ok (.iconst 2, 1) := by decide +kernel
theorem dX6_took_17 : decode cX6_took 17 = .ok (.if_icmp .le 5, 3) := by decide +kernel
theorem dX6_took_20 : decode cX6_took 20 = .ok (.iconst (-1), 1) := by decide +kernel
theorem dX6_took_21 : decode cX6_took 21 = .ok (.ireturn, 1) := by decide +kernel
theorem dX6_took_22 : decode cX6_took 22 = .ok (.iload_n 2, 1) := by decide +kernel
theorem dX6_took_23 : decode cX6_took 23 = .ok (.ifCond .ne 13, 3) := by decide +kernel
theorem dX6_took_26 : decode cX6_took 26 = .ok (.aload_n 0, 1) := by decide +kernel
theorem dX6_took_27 : decode cX6_took 27 = .ok (.getfield 16, 3) := by decide +kernel
theorem dX6_took_30 : decode cX6_took 30 = .ok (.getfield 194, 3) := by decide +kernel
theorem dX6_took_33 : decode cX6_took 33 = .ok (.iload_n 1, 1) := by decide +kernel
theorem dX6_took_34 : decode cX6_took 34 = .ok (.iaload, 1) := by decide +kernel
theorem dX6_took_35 : decode cX6_took 35 = .ok (.ireturn, 1) := by decide +kernel
theorem dX6_took_36 : decode cX6_took 36 = .ok (.iload_n 2, 1) := by decide +kernel
theorem dX6_took_37 : decode cX6_took 37 = .ok (.iconst 1, 1) := by decide +kernel
theorem dX6_took_38 : decode cX6_took 38 = .ok (.if_icmp .ne 7, 3) := by decide +kernel
theorem dX6_took_41 : decode cX6_took 41 = .ok (.iconst 1, 1) := by decide +kernel
theorem dX6_took_42 : decode cX6_took 42 = .ok (.goto 4, 3) := by decide +kernel
theorem dX6_took_45 : decode cX6_took 45 = .ok (.iconst (-1), 1) := by decide +kernel
theorem dX6_took_46 : decode cX6_took 46 = .ok (.istore_n 3, 1) := by decide +kernel
theorem dX6_took_47 : decode cX6_took 47 = .ok (.iload_n 1, 1) := by decide +kernel
theorem dX6_took_48 : decode cX6_took 48 = .ok (.istore 4, 2) := by decide +kernel
theorem dX6_took_50 : decode cX6_took 50 = .ok (.iload 4, 2) := by decide +kernel
theorem dX6_took_52 : decode cX6_took 52 = .ok (.iconst 1, 1) := by decide +kernel
theorem dX6_took_53 : decode cX6_took 53 = .ok (.if_icmp .lt 35, 3) := by decide +kernel
theorem dX6_took_56 : decode cX6_took 56 = .ok (.iload 4, 2) := by decide +kernel
theorem dX6_took_58 : decode cX6_took 58 = .ok (.bipush 9, 2) := by decide +kernel
theorem dX6_took_60 : decode cX6_took 60 = .ok (.if_icmp .gt 28, 3) := by decide +kernel
theorem dX6_took_63 : decode cX6_took 63 = .ok (.aload_n 0, 1) := by decide +kernel
theorem dX6_took_64 : decode cX6_took 64 = .ok (.getfield 16, 3) := by decide +kernel
theorem dX6_took_67 : decode cX6_took 67 = .ok (.getfield 194, 3) := by decide +kernel
theorem dX6_took_70 : decode cX6_took 70 = .ok (.iload 4, 2) := by decide +kernel
theorem dX6_took_72 : decode cX6_took 72 = .ok (.iaload, 1) := by decide +kernel
theorem dX6_took_73 : decode cX6_took 73 = .ok (.ifCond .le 6, 3) := by decide +kernel
theorem dX6_took_76 : decode cX6_took 76 = .ok (.iload 4, 2) := by decide +kernel
theorem dX6_took_78 : decode cX6_took 78 = .ok (.ireturn, 1) := by decide +kernel
theorem dX6_took_79 : decode cX6_took 79 = .ok (.iload 4, 2) := by decide +kernel
theorem dX6_took_81 : decode cX6_took 81 = .ok (.iload_n 3, 1) := by decide +kernel
theorem dX6_took_82 : decode cX6_took 82 = .ok (.iadd, 1) := by decide +kernel
theorem dX6_took_83 : decode cX6_took 83 = .ok (.istore 4, 2) := by decide +kernel
theorem dX6_took_85 : decode cX6_took 85 = .ok (.goto (-35), 3) := by decide +kernel
theorem dX6_took_88 : decode cX6_took 88 = .ok (.bipush (-4), 2) := by decide +kernel
theorem dX6_took_90 : decode cX6_took 90 = .ok (.ireturn, 1) := by decide +kernel
theorem dX6_ahead_0 : decode cX6_ahead 0 = .ok (.iload_n 1, 1) := by decide +kernel
theorem dX6_ahead_1 : decode cX6_ahead 1 = .ok (.iconst 1, 1) := by decide +kernel
theorem dX6_ahead_2 : decode cX6_ahead 2 = .ok (.if_icmp .lt 18, 3) := by decide +kernel
theorem dX6_ahead_5 : decode cX6_ahead 5 = .ok (.iload_n 1, 1) := by decide +kernel
theorem dX6_ahead_6 : decode cX6_ahead 6 = .ok (.bipush 99, 2) := by decide +kernel
theorem dX6_ahead_8 : decode cX6_ahead 8 = .ok (.if_icmp .gt 12, 3) := by decide +kernel
theorem dX6_ahead_11 : decode cX6_ahead 11 = .ok (.iload_n 2, 1) := by decide +kernel
theorem dX6_ahead_12 : decode cX6_ahead 12 = .ok (.ifCond .lt 8, 3) := by decide +kernel
theorem dX6_ahead_15 : decode cX6_ahead 15 = .ok (.iload_n 2, 1) := by decide +kernel
theorem dX6_ahead_16 : decode cX6_ahead 16 = .ok (.iconst 5, 1) := by decide +kernel
theorem dX6_ahead_17 : decode cX6_ahead 17 = .ok (.if_icmp .le 5, 3) := by decide +kernel
theorem dX6_ahead_20 : decode cX6_ahead 20 = .ok (.iconst (-1), 1) := by decide +kernel
theorem dX6_ahead_21 : decode cX6_ahead 21 = .ok (.ireturn, 1) := by decide +kernel
theorem dX6_ahead_22 : decode cX6_ahead 22 = .ok (.aload_n 0, 1) := by decide +kernel
theorem dX6_ahead_23 : decode cX6_ahead 23 = .ok (.getfield 20, 3) := by decide +kernel
theorem dX6_ahead_26 : decode cX6_ahead 26 = .ok (.aload_n 0, 1) := by decide +kernel
theorem dX6_ahead_27 : decode cX6_ahead 27 = .ok (.getfield 16, 3) := by decide +kernel
theorem dX6_ahead_30 : decode cX6_ahead 30 = .ok (.invokevirtual 125, 3) := by decide +kernel
theorem dX6_ahead_33 : decode cX6_ahead 33 = .ok (.aload_n 0, 1) := by decide +kernel
theorem dX6_ahead_34 : decode cX6_ahead 34 = .ok (.getfield 20, 3) := by decide +kernel
theorem dX6_ahead_37 : decode cX6_ahead 37 = .ok (.iload_n 1, 1) := by decide +kernel
theorem dX6_ahead_38 : decode cX6_ahead 38 = .ok (.invokevirtual 116, 3) := by decide +kernel
theorem dX6_ahead_41 : decode cX6_ahead 41 = .ok (.iload_n 2, 1) := by decide +kernel
theorem dX6_ahead_42 : decode cX6_ahead 42 = .ok (.tableswitch 98 0 4 #[34, 52, 70, 88, 93], 34) := by decide +kernel
theorem dX6_ahead_76 : decode cX6_ahead 76 = .ok (.aload_n 0, 1) := by decide +kernel
theorem dX6_ahead_77 : decode cX6_ahead 77 = .ok (.getfield 20, 3) := by decide +kernel
theorem dX6_ahead_80 : decode cX6_ahead 80 = .ok (.iconst 1, 1) := by decide +kernel
theorem dX6_ahead_81 : decode cX6_ahead 81 = .ok (.invokevirtual 113, 3) := by decide +kernel
theorem dX6_ahead_84 : decode cX6_ahead 84 = .ok (.aload_n 0, 1) := by decide +kernel
theorem dX6_ahead_85 : decode cX6_ahead 85 = .ok (.getfield 16, 3) := by decide +kernel
theorem dX6_ahead_88 : decode cX6_ahead 88 = .ok (.iconst 1, 1) := by decide +kernel
theorem dX6_ahead_89 : decode cX6_ahead 89 = .ok (.invokevirtual 113, 3) := by decide +kernel
theorem dX6_ahead_92 : decode cX6_ahead 92 = .ok (.isub, 1) := by decide +kernel
theorem dX6_ahead_93 : decode cX6_ahead 93 = .ok (.ireturn, 1) := by decide +kernel
theorem dX6_ahead_94 : decode cX6_ahead 94 = .ok (.aload_n 0, 1) := by decide +kernel
theorem dX6_ahead_95 : decode cX6_ahead 95 = .ok (.getfield 20, 3) := by decide +kernel
theorem dX6_ahead_98 : decode cX6_ahead 98 = .ok (.iconst 2, 1) := by decide +kernel
theorem dX6_ahead_99 : decode cX6_ahead 99 = .ok (.invokevirtual 113, 3) := by decide +kernel
theorem dX6_ahead_102 : decode cX6_ahead 102 = .ok (.aload_n 0, 1) := by decide +kernel
theorem dX6_ahead_103 : decode cX6_ahead 103 = .ok (.getfield 16, 3) := by decide +kernel
theorem dX6_ahead_106 : decode cX6_ahead 106 = .ok (.iconst 2, 1) := by decide +kernel
theorem dX6_ahead_107 : decode cX6_ahead 107 = .ok (.invokevirtual 113, 3) := by decide +kernel
theorem dX6_ahead_110 : decode cX6_ahead 110 = .ok (.isub, 1) := by decide +kernel
theorem dX6_ahead_111 : decode cX6_ahead 111 = .ok (.ireturn, 1) := by decide +kernel
theorem dX6_ahead_112 : decode cX6_ahead 112 = .ok (.aload_n 0, 1) := by decide +kernel
theorem dX6_ahead_113 : decode cX6_ahead 113 = .ok (.getfield 20, 3) := by decide +kernel
theorem dX6_ahead_116 : decode cX6_ahead 116 = .ok (.iconst 3, 1) := by decide +kernel
theorem dX6_ahead_117 : decode cX6_ahead 117 = .ok (.invokevirtual 113, 3) := by decide +kernel
theorem dX6_ahead_120 : decode cX6_ahead 120 = .ok (.aload_n 0, 1) := by decide +kernel
theorem dX6_ahead_121 : decode cX6_ahead 121 = .ok (.getfield 16, 3) := by decide +kernel
theorem dX6_ahead_124 : decode cX6_ahead 124 = .ok (.iconst 3, 1) := by decide +kernel
theorem dX6_ahead_125 : decode cX6_ahead 125 = .ok (.invokevirtual 113, 3) := by decide +kernel
theorem dX6_ahead_128 : decode cX6_ahead 128 = .ok (.isub, 1) := by decide +kernel
theorem dX6_ahead_129 : decode cX6_ahead 129 = .ok (.ireturn, 1) := by decide +kernel
theorem dX6_ahead_130 : decode cX6_ahead 130 = .ok (.aload_n 0, 1) := by decide +kernel
theorem dX6_ahead_131 : decode cX6_ahead 131 = .ok (.invokevirtual 197, 3) := by decide +kernel
theorem dX6_ahead_134 : decode cX6_ahead 134 = .ok (.ireturn, 1) := by decide +kernel
theorem dX6_ahead_135 : decode cX6_ahead 135 = .ok (.aload_n 0, 1) := by decide +kernel
theorem dX6_ahead_136 : decode cX6_ahead 136 = .ok (.invokevirtual 200, 3) := by decide +kernel
theorem dX6_ahead_139 : decode cX6_ahead 139 = .ok (.ireturn, 1) := by decide +kernel
theorem dX6_ahead_140 : decode cX6_ahead 140 = .ok (.aload_n 0, 1) := by decide +kernel
theorem dX6_ahead_141 : decode cX6_ahead 141 = .ok (.getfield 20, 3) := by decide +kernel
theorem dX6_ahead_144 : decode cX6_ahead 144 = .ok (.iconst 0, 1) := by decide +kernel
theorem dX6_ahead_145 : decode cX6_ahead 145 = .ok (.invokevirtual 113, 3) := by decide +kernel
theorem dX6_ahead_148 : decode cX6_ahead 148 = .ok (.ireturn, 1) := by decide +kernel
theorem dX6_soon_0 : decode cX6_soon 0 = .ok (.aload_n 0, 1) := by decide +kernel
theorem dX6_soon_1 : decode cX6_soon 1 = .ok (.getfield 16, 3) := by decide +kernel
theorem dX6_soon_4 : decode cX6_soon 4 = .ok (.iconst 1, 1) := by decide +kernel
theorem dX6_soon_5 : decode cX6_soon 5 = .ok (.invokevirtual 113, 3) := by decide +kernel
theorem dX6_soon_8 : decode cX6_soon 8 = .ok (.istore_n 1, 1) := by decide +kernel
theorem dX6_soon_9 : decode cX6_soon 9 = .ok (.aload_n 0, 1) := by decide +kernel
theorem dX6_soon_10 : decode cX6_soon 10 = .ok (.getfield 20, 3) := by decide +kernel
theorem dX6_soon_13 : decode cX6_soon 13 = .ok (.aload_n 0, 1) := by decide +kernel
theorem dX6_soon_14 : decode cX6_soon 14 = .ok (.getfield 16, 3) := by decide +kernel
theorem dX6_soon_17 : decode cX6_soon 17 = .ok (.invokevirtual 125, 3) := by decide +kernel
theorem dX6_soon_20 : decode cX6_soon 20 = .ok (.iconst 1, 1) := by decide +kernel
theorem dX6_soon_21 : decode cX6_soon 21 = .ok (.istore_n 2, 1) := by decide +kernel
theorem dX6_soon_22 : decode cX6_soon 22 = .ok (.iload_n 2, 1) := by decide +kernel
theorem dX6_soon_23 : decode cX6_soon 23 = .ok (.bipush 99, 2) := by decide +kernel
theorem dX6_soon_25 : decode cX6_soon 25 = .ok (.if_icmp .gt 31, 3) := by decide +kernel
theorem dX6_soon_28 : decode cX6_soon 28 = .ok (.aload_n 0, 1) := by decide +kernel
theorem dX6_soon_29 : decode cX6_soon 29 = .ok (.getfield 20, 3) := by decide +kernel
theorem dX6_soon_32 : decode cX6_soon 32 = .ok (.iconst 1, 1) := by decide +kernel
theorem dX6_soon_33 : decode cX6_soon 33 = .ok (.invokevirtual 116, 3) := by decide +kernel
theorem dX6_soon_36 : decode cX6_soon 36 = .ok (.aload_n 0, 1) := by decide +kernel
theorem dX6_soon_37 : decode cX6_soon 37 = .ok (.getfield 20, 3) := by decide +kernel
theorem dX6_soon_40 : decode cX6_soon 40 = .ok (.iconst 1, 1) := by decide +kernel
theorem dX6_soon_41 : decode cX6_soon 41 = .ok (.invokevirtual 113, 3) := by decide +kernel
theorem dX6_soon_44 : decode cX6_soon 44 = .ok (.iload_n 1, 1) := by decide +kernel
theorem dX6_soon_45 : decode cX6_soon 45 = .ok (.if_icmp .le 5, 3) := by decide +kernel
theorem dX6_soon_48 : decode cX6_soon 48 = .ok (.iload_n 2, 1) := by decide +kernel
theorem dX6_soon_49 : decode cX6_soon 49 = .ok (.ireturn, 1) := by decide +kernel
theorem dX6_soon_50 : decode cX6_soon 50 = .ok (.iinc 2 1, 3) := by decide +kernel
theorem dX6_soon_53 : decode cX6_soon 53 = .ok (.goto (-31), 3) := by decide +kernel
theorem dX6_soon_56 : decode cX6_soon 56 = .ok (.bipush (-4), 2) := by decide +kernel
theorem dX6_soon_58 : decode cX6_soon 58 = .ok (.ireturn, 1) := by decide +kernel
theorem dX6_count_0 : decode cX6_count 0 = .ok (.iload_n 1, 1) := by decide +kernel
theorem dX6_count_1 : decode cX6_count 1 = .ok (.tableswitch 195 0 14 #[75, 83, 92, 101, 109, 118, 127, 136, 145, 153, 161, 169, 177, 185, 190], 75) := by decide +kernel
theorem dX6_count_76 : decode cX6_count 76 = .ok (.aload_n 0, 1) := by decide +kernel
theorem dX6_count_77 : decode cX6_count 77 = .ok (.getfield 16, 3) := by decide +kernel
theorem dX6_count_80 : decode cX6_count 80 = .ok (.getfield 60, 3) := by decide +kernel
theorem dX6_count_83 : decode cX6_count 83 = .ok (.ireturn, 1) := by decide +kernel
theorem dX6_count_84 : decode cX6_count 84 = .ok (.aload_n 0, 1) := by decide +kernel
theorem dX6_count_85 : decode cX6_count 85 = .ok (.getfield 16, 3) := by decide +kernel
theorem dX6_count_88 : decode cX6_count 88 = .ok (.iconst 0, 1) := by decide +kernel
theorem dX6_count_89 : decode cX6_count 89 = .ok (.invokevirtual 104, 3) := by decide +kernel
theorem dX6_count_92 : decode cX6_count 92 = .ok (.ireturn, 1) := by decide +kernel
theorem dX6_count_93 : decode cX6_count 93 = .ok (.aload_n 0, 1) := by decide +kernel
theorem dX6_count_94 : decode cX6_count 94 = .ok (.getfield 16, 3) := by decide +kernel
theorem dX6_count_97 : decode cX6_count 97 = .ok (.iconst 1, 1) := by decide +kernel
theorem dX6_count_98 : decode cX6_count 98 = .ok (.invokevirtual 104, 3) := by decide +kernel
theorem dX6_count_101 : decode cX6_count 101 = .ok (.ireturn, 1) := by decide +kernel
theorem dX6_count_102 : decode cX6_count 102 = .ok (.aload_n 0, 1) := by decide +kernel
theorem dX6_count_103 : decode cX6_count 103 = .ok (.getfield 16, 3) := by decide +kernel
theorem dX6_count_106 : decode cX6_count 106 = .ok (.getfield 110, 3) := by decide +kernel
theorem dX6_count_109 : decode cX6_count 109 = .ok (.ireturn, 1) := by decide +kernel
theorem dX6_count_110 : decode cX6_count 110 = .ok (.aload_n 0, 1) := by decide +kernel
theorem dX6_count_111 : decode cX6_count 111 = .ok (.getfield 16, 3) := by decide +kernel
theorem dX6_count_114 : decode cX6_count 114 = .ok (.iconst 0, 1) := by decide +kernel
theorem dX6_count_115 : decode cX6_count 115 = .ok (.invokevirtual 113, 3) := by decide +kernel
theorem dX6_count_118 : decode cX6_count 118 = .ok (.ireturn, 1) := by decide +kernel
theorem dX6_count_119 : decode cX6_count 119 = .ok (.aload_n 0, 1) := by decide +kernel
theorem dX6_count_120 : decode cX6_count 120 = .ok (.getfield 16, 3) := by decide +kernel
theorem dX6_count_123 : decode cX6_count 123 = .ok (.iconst 1, 1) := by decide +kernel
theorem dX6_count_124 : decode cX6_count 124 = .ok (.invokevirtual 113, 3) := by decide +kernel
theorem dX6_count_127 : decode cX6_count 127 = .ok (.ireturn, 1) := by decide +kernel
theorem dX6_count_128 : decode cX6_count 128 = .ok (.aload_n 0, 1) := by decide +kernel
theorem dX6_count_129 : decode cX6_count 129 = .ok (.getfield 16, 3) := by decide +kernel
theorem dX6_count_132 : decode cX6_count 132 = .ok (.iconst 2, 1) := by decide +kernel
theorem dX6_count_133 : decode cX6_count 133 = .ok (.invokevirtual 113, 3) := by decide +kernel
theorem dX6_count_136 : decode cX6_count 136 = .ok (.ireturn, 1) := by decide +kernel
theorem dX6_count_137 : decode cX6_count 137 = .ok (.aload_n 0, 1) := by decide +kernel
theorem dX6_count_138 : decode cX6_count 138 = .ok (.getfield 16, 3) := by decide +kernel
theorem dX6_count_141 : decode cX6_count 141 = .ok (.iconst 3, 1) := by decide +kernel
theorem dX6_count_142 : decode cX6_count 142 = .ok (.invokevirtual 113, 3) := by decide +kernel
theorem dX6_count_145 : decode cX6_count 145 = .ok (.ireturn, 1) := by decide +kernel
theorem dX6_count_146 : decode cX6_count 146 = .ok (.aload_n 0, 1) := by decide +kernel
theorem dX6_count_147 : decode cX6_count 147 = .ok (.getfield 16, 3) := by decide +kernel
theorem dX6_count_150 : decode cX6_count 150 = .ok (.getfield 107, 3) := by decide +kernel
theorem dX6_count_153 : decode cX6_count 153 = .ok (.ireturn, 1) := by decide +kernel
theorem dX6_count_154 : decode cX6_count 154 = .ok (.aload_n 0, 1) := by decide +kernel
theorem dX6_count_155 : decode cX6_count 155 = .ok (.getfield 16, 3) := by decide +kernel
theorem dX6_count_158 : decode cX6_count 158 = .ok (.getfield 203, 3) := by decide +kernel
theorem dX6_count_161 : decode cX6_count 161 = .ok (.ireturn, 1) := by decide +kernel
theorem dX6_count_162 : decode cX6_count 162 = .ok (.aload_n 0, 1) := by decide +kernel
theorem dX6_count_163 : decode cX6_count 163 = .ok (.getfield 16, 3) := by decide +kernel
theorem dX6_count_166 : decode cX6_count 166 = .ok (.getfield 206, 3) := by decide +kernel
theorem dX6_count_169 : decode cX6_count 169 = .ok (.ireturn, 1) := by decide +kernel
theorem dX6_count_170 : decode cX6_count 170 = .ok (.aload_n 0, 1) := by decide +kernel
theorem dX6_count_171 : decode cX6_count 171 = .ok (.getfield 16, 3) := by decide +kernel
theorem dX6_count_174 : decode cX6_count 174 = .ok (.getfield 209, 3) := by decide +kernel
theorem dX6_count_177 : decode cX6_count 177 = .ok (.ireturn, 1) := by decide +kernel
theorem dX6_count_178 : decode cX6_count 178 = .ok (.aload_n 0, 1) := by decide +kernel
theorem dX6_count_179 : decode cX6_count 179 = .ok (.getfield 16, 3) := by decide +kernel
theorem dX6_count_182 : decode cX6_count 182 = .ok (.getfield 212, 3) := by decide +kernel
theorem dX6_count_185 : decode cX6_count 185 = .ok (.ireturn, 1) := by decide +kernel
theorem dX6_count_186 : decode cX6_count 186 = .ok (.aload_n 0, 1) := by decide +kernel
theorem dX6_count_187 : decode cX6_count 187 = .ok (.getfield 119, 3) := by decide +kernel
theorem dX6_count_190 : decode cX6_count 190 = .ok (.ireturn, 1) := by decide +kernel
theorem dX6_count_191 : decode cX6_count 191 = .ok (.aload_n 0, 1) := by decide +kernel
theorem dX6_count_192 : decode cX6_count 192 = .ok (.getfield 48, 3) := by decide +kernel
theorem dX6_count_195 : decode cX6_count 195 = .ok (.ireturn, 1) := by decide +kernel
theorem dX6_count_196 : decode cX6_count 196 = .ok (.iconst (-1), 1) := by decide +kernel
theorem dX6_count_197 : decode cX6_count 197 = .ok (.ireturn, 1) := by decide +kernel
theorem dX6_isStation_0 : decode cX6_isStation 0 = .ok (.iload_n 1, 1) := by decide +kernel
theorem dX6_isStation_1 : decode cX6_isStation 1 = .ok (.ifCond .lt 18, 3) := by decide +kernel
theorem dX6_isStation_4 : decode cX6_isStation 4 = .ok (.iload_n 1, 1) := by decide +kernel
theorem dX6_isStation_5 : decode cX6_isStation 5 = .ok (.aload_n 0, 1) := by decide +kernel
theorem dX6_isStation_6 : decode cX6_isStation 6 = .ok (.getfield 16, 3) := by decide +kernel
theorem dX6_isStation_9 : decode cX6_isStation 9 = .ok (.getfield 60, 3) := by decide +kernel
theorem dX6_isStation_12 : decode cX6_isStation 12 = .ok (.if_icmp .ge 7, 3) := by decide +kernel
theorem dX6_isStation_15 : decode cX6_isStation 15 = .ok (.iconst 1, 1) := by decide +kernel
theorem dX6_isStation_16 : decode cX6_isStation 16 = .ok (.goto 4, 3) := by decide +kernel
theorem dX6_isStation_19 : decode cX6_isStation 19 = .ok (.iconst 0, 1) := by decide +kernel
theorem dX6_isStation_20 : decode cX6_isStation 20 = .ok (.ireturn, 1) := by decide +kernel
theorem dX6_isPair_0 : decode cX6_isPair 0 = .ok (.aload_n 0, 1) := by decide +kernel
theorem dX6_isPair_1 : decode cX6_isPair 1 = .ok (.iload_n 1, 1) := by decide +kernel
theorem dX6_isPair_2 : decode cX6_isPair 2 = .ok (.invokevirtual 129, 3) := by decide +kernel
theorem dX6_isPair_5 : decode cX6_isPair 5 = .ok (.ifCond .eq 20, 3) := by decide +kernel
theorem dX6_isPair_8 : decode cX6_isPair 8 = .ok (.aload_n 0, 1) := by decide +kernel
theorem dX6_isPair_9 : decode cX6_isPair 9 = .ok (.iload_n 2, 1) := by decide +kernel
theorem dX6_isPair_10 : decode cX6_isPair 10 = .ok (.invokevirtual 129, 3) := by decide +kernel
theorem dX6_isPair_13 : decode cX6_isPair 13 = .ok (.ifCond .eq 12, 3) := by decide +kernel
theorem dX6_isPair_16 : decode cX6_isPair 16 = .ok (.iload_n 1, 1) := by decide +kernel
theorem dX6_isPair_17 : decode cX6_isPair 17 = .ok (.iload_n 2, 1) := by decide +kernel
theorem dX6_isPair_18 : decode cX6_isPair 18 = .ok (.if_icmp .eq 7, 3) := by decide +kernel
theorem dX6_isPair_21 : decode cX6_isPair 21 = .ok (.iconst 1, 1) := by decide +kernel
theorem dX6_isPair_22 : decode cX6_isPair 22 = .ok (.goto 4, 3) := by decide +kernel
theorem dX6_isPair_25 : decode cX6_isPair 25 = .ok (.iconst 0, 1) := by decide +kernel
theorem dX6_isPair_26 : decode cX6_isPair 26 = .ok (.ireturn, 1) := by decide +kernel
theorem dX6_takeText_0 : decode cX6_takeText 0 = .ok (.aload_n 0, 1) := by decide +kernel
theorem dX6_takeText_1 : decode cX6_takeText 1 = .ok (.getfield 28, 3) := by decide +kernel
theorem dX6_takeText_4 : decode cX6_takeText 4 = .ok (.aload_n 0, 1) := by decide +kernel
theorem dX6_takeText_5 : decode cX6_takeText 5 = .ok (.getfield 48, 3) := by decide +kernel
theorem dX6_takeText_8 : decode cX6_takeText 8 = .ok (.invokevirtual 56, 3) := by decide +kernel
theorem dX6_takeText_11 : decode cX6_takeText 11 = .ok (.bipush (-4), 2) := by decide +kernel
theorem dX6_takeText_13 : decode cX6_takeText 13 = .ok (.if_icmp .ne 13, 3) := by decide +kernel
theorem dX6_takeText_16 : decode cX6_takeText 16 = .ok (.aload_n 0, 1) := by decide +kernel
theorem dX6_takeText_17 : decode cX6_takeText 17 = .ok (.getfield 20, 3) := by decide +kernel
theorem dX6_takeText_20 : decode cX6_takeText 20 = .ok (.getfield 60, 3) := by decide +kernel
theorem dX6_takeText_23 : decode cX6_takeText 23 = .ok (.ifCond .ne 5, 3) := by decide +kernel
theorem dX6_takeText_26 : decode cX6_takeText 26 = .ok (.iconst 0, 1) := by decide +kernel
theorem dX6_takeText_27 : decode cX6_takeText 27 = .ok (.ireturn, 1) := by decide +kernel
theorem dX6_takeText_28 : decode cX6_takeText 28 = .ok (.aload_n 0, 1) := by decide +kernel
theorem dX6_takeText_29 : decode cX6_takeText 29 = .ok (.getfield 20, 3) := by decide +kernel
theorem dX6_takeText_32 : decode cX6_takeText 32 = .ok (.invokevirtual 215, 3) := by decide +kernel
theorem dX6_takeText_35 : decode cX6_takeText 35 = .ok (.aload_n 0, 1) := by decide +kernel
theorem dX6_takeText_36 : decode cX6_takeText 36 = .ok (.getfield 16, 3) := by decide +kernel
theorem dX6_takeText_39 : decode cX6_takeText 39 = .ok (.aload_n 0, 1) := by decide +kernel
theorem dX6_takeText_40 : decode cX6_takeText 40 = .ok (.getfield 20, 3) := by decide +kernel
theorem dX6_takeText_43 : decode cX6_takeText 43 = .ok (.invokevirtual 125, 3) := by decide +kernel
theorem dX6_takeText_46 : decode cX6_takeText 46 = .ok (.aload_n 0, 1) := by decide +kernel
theorem dX6_takeText_47 : decode cX6_takeText 47 = .ok (.iconst 0, 1) := by decide +kernel
theorem dX6_takeText_48 : decode cX6_takeText 48 = .ok (.putfield 119, 3) := by decide +kernel
theorem dX6_takeText_51 : decode cX6_takeText 51 = .ok (.aload_n 0, 1) := by decide +kernel
theorem dX6_takeText_52 : decode cX6_takeText 52 = .ok (.iconst 0, 1) := by decide +kernel
theorem dX6_takeText_53 : decode cX6_takeText 53 = .ok (.putfield 122, 3) := by decide +kernel
theorem dX6_takeText_56 : decode cX6_takeText 56 = .ok (.iconst 1, 1) := by decide +kernel
theorem dX6_takeText_57 : decode cX6_takeText 57 = .ok (.ireturn, 1) := by decide +kernel
theorem dX6_remember_0 : decode cX6_remember 0 = .ok (.aload_n 0, 1) := by decide +kernel
theorem dX6_remember_1 : decode cX6_remember 1 = .ok (.getfield 32, 3) := by decide +kernel
theorem dX6_remember_4 : decode cX6_remember 4 = .ok (.aload_n 0, 1) := by decide +kernel
theorem dX6_remember_5 : decode cX6_remember 5 = .ok (.getfield 122, 3) := by decide +kernel
theorem dX6_remember_8 : decode cX6_remember 8 = .ok (.aaload, 1) := by decide +kernel
theorem dX6_remember_9 : decode cX6_remember 9 = .ok (.aload_n 0, 1) := by decide +kernel
theorem dX6_remember_10 : decode cX6_remember 10 = .ok (.getfield 16, 3) := by decide +kernel
theorem dX6_remember_13 : decode cX6_remember 13 = .ok (.invokevirtual 125, 3) := by decide +kernel
theorem dX6_remember_16 : decode cX6_remember 16 = .ok (.aload_n 0, 1) := by decide +kernel
theorem dX6_remember_17 : decode cX6_remember 17 = .ok (.aload_n 0, 1) := by decide +kernel
theorem dX6_remember_18 : decode cX6_remember 18 = .ok (.getfield 122, 3) := by decide +kernel
theorem dX6_remember_21 : decode cX6_remember 21 = .ok (.iconst 3, 1) := by decide +kernel
theorem dX6_remember_22 : decode cX6_remember 22 = .ok (.if_icmp .ne 7, 3) := by decide +kernel
theorem dX6_remember_25 : decode cX6_remember 25 = .ok (.iconst 0, 1) := by decide +kernel
theorem dX6_remember_26 : decode cX6_remember 26 = .ok (.goto 9, 3) := by decide +kernel
theorem dX6_remember_29 : decode cX6_remember 29 = .ok (.aload_n 0, 1) := by decide +kernel
theorem dX6_remember_30 : decode cX6_remember 30 = .ok (.getfield 122, 3) := by decide +kernel
theorem dX6_remember_33 : decode cX6_remember 33 = .ok (.iconst 1, 1) := by decide +kernel
theorem dX6_remember_34 : decode cX6_remember 34 = .ok (.iadd, 1) := by decide +kernel
theorem dX6_remember_35 : decode cX6_remember 35 = .ok (.putfield 122, 3) := by decide +kernel
theorem dX6_remember_38 : decode cX6_remember 38 = .ok (.aload_n 0, 1) := by decide +kernel
theorem dX6_remember_39 : decode cX6_remember 39 = .ok (.aload_n 0, 1) := by decide +kernel
theorem dX6_remember_40 : decode cX6_remember 40 = .ok (.getfield 119, 3) := by decide +kernel
theorem dX6_remember_43 : decode cX6_remember 43 = .ok (.iconst 1, 1) := by decide +kernel
theorem dX6_remember_44 : decode cX6_remember 44 = .ok (.iadd, 1) := by decide +kernel
theorem dX6_remember_45 : decode cX6_remember 45 = .ok (.iconst 4, 1) := by decide +kernel
theorem dX6_remember_46 : decode cX6_remember 46 = .ok (.invokestatic 218, 3) := by decide +kernel
theorem dX6_remember_49 : decode cX6_remember 49 = .ok (.putfield 119, 3) := by decide +kernel
theorem dX6_remember_52 : decode cX6_remember 52 = .ok (.return_, 1) := by decide +kernel
theorem dX6_sentInTrial_0 : decode cX6_sentInTrial 0 = .ok (.aload_n 0, 1) := by decide +kernel
theorem dX6_sentInTrial_1 : decode cX6_sentInTrial 1 = .ok (.getfield 20, 3) := by decide +kernel
theorem dX6_sentInTrial_4 : decode cX6_sentInTrial 4 = .ok (.getfield 70, 3) := by decide +kernel
theorem dX6_sentInTrial_7 : decode cX6_sentInTrial 7 = .ok (.iload_n 1, 1) := by decide +kernel
theorem dX6_sentInTrial_8 : decode cX6_sentInTrial 8 = .ok (.aaload, 1) := by decide +kernel
theorem dX6_sentInTrial_9 : decode cX6_sentInTrial 9 = .ok (.getfield 147, 3) := by decide +kernel
theorem dX6_sentInTrial_12 : decode cX6_sentInTrial 12 = .ok (.aload_n 0, 1) := by decide +kernel
theorem dX6_sentInTrial_13 : decode cX6_sentInTrial 13 = .ok (.getfield 16, 3) := by decide +kernel
theorem dX6_sentInTrial_16 : decode cX6_sentInTrial 16 = .ok (.getfield 70, 3) := by decide +kernel
theorem dX6_sentInTrial_19 : decode cX6_sentInTrial 19 = .ok (.iload_n 1, 1) := by decide +kernel
theorem dX6_sentInTrial_20 : decode cX6_sentInTrial 20 = .ok (.aaload, 1) := by decide +kernel
theorem dX6_sentInTrial_21 : decode cX6_sentInTrial 21 = .ok (.getfield 147, 3) := by decide +kernel
theorem dX6_sentInTrial_24 : decode cX6_sentInTrial 24 = .ok (.isub, 1) := by decide +kernel
theorem dX6_sentInTrial_25 : decode cX6_sentInTrial 25 = .ok (.ireturn, 1) := by decide +kernel
theorem dX6_mostSentInTrial_0 : decode cX6_mostSentInTrial 0 = .ok (.aload_n 0, 1) := by decide +kernel
theorem dX6_mostSentInTrial_1 : decode cX6_mostSentInTrial 1 = .ok (.iconst 0, 1) := by decide +kernel
theorem dX6_mostSentInTrial_2 : decode cX6_mostSentInTrial 2 = .ok (.invokevirtual 223, 3) := by decide +kernel
theorem dX6_mostSentInTrial_5 : decode cX6_mostSentInTrial 5 = .ok (.istore_n 1, 1) := by decide +kernel
theorem dX6_mostSentInTrial_6 : decode cX6_mostSentInTrial 6 = .ok (.iconst 1, 1) := by decide +kernel
theorem dX6_mostSentInTrial_7 : decode cX6_mostSentInTrial 7 = .ok (.istore_n 2, 1) := by decide +kernel
theorem dX6_mostSentInTrial_8 : decode cX6_mostSentInTrial 8 = .ok (.iload_n 2, 1) := by decide +kernel
theorem dX6_mostSentInTrial_9 : decode cX6_mostSentInTrial 9 = .ok (.aload_n 0, 1) := by decide +kernel
theorem dX6_mostSentInTrial_10 : decode cX6_mostSentInTrial 10 = .ok (.getfield 16, 3) := by decide +kernel
theorem dX6_mostSentInTrial_13 : decode cX6_mostSentInTrial 13 = .ok (.getfield 60, 3) := by decide +kernel
theorem dX6_mostSentInTrial_16 : decode cX6_mostSentInTrial 16 = .ok (.if_icmp .ge 19, 3) := by decide +kernel
theorem dX6_mostSentInTrial_19 : decode cX6_mostSentInTrial 19 = .ok (.iload_n 1, 1) := by decide +kernel
theorem dX6_mostSentInTrial_20 : decode cX6_mostSentInTrial 20 = .ok (.aload_n 0, 1) := by decide +kernel
theorem dX6_mostSentInTrial_21 : decode cX6_mostSentInTrial 21 = .ok (.iload_n 2, 1) := by decide +kernel
theorem dX6_mostSentInTrial_22 : decode cX6_mostSentInTrial 22 = .ok (.invokevirtual 223, 3) := by decide +kernel
theorem dX6_mostSentInTrial_25 : decode cX6_mostSentInTrial 25 = .ok (.invokestatic 226, 3) := by decide +kernel
theorem dX6_mostSentInTrial_28 : decode cX6_mostSentInTrial 28 = .ok (.istore_n 1, 1) := by decide +kernel
theorem dX6_mostSentInTrial_29 : decode cX6_mostSentInTrial 29 = .ok (.iinc 2 1, 3) := by decide +kernel
theorem dX6_mostSentInTrial_32 : decode cX6_mostSentInTrial 32 = .ok (.goto (-24), 3) := by decide +kernel
theorem dX6_mostSentInTrial_35 : decode cX6_mostSentInTrial 35 = .ok (.iload_n 1, 1) := by decide +kernel
theorem dX6_mostSentInTrial_36 : decode cX6_mostSentInTrial 36 = .ok (.ireturn, 1) := by decide +kernel
theorem dX6_leastSentInTrial_0 : decode cX6_leastSentInTrial 0 = .ok (.aload_n 0, 1) := by decide +kernel
theorem dX6_leastSentInTrial_1 : decode cX6_leastSentInTrial 1 = .ok (.iconst 0, 1) := by decide +kernel
theorem dX6_leastSentInTrial_2 : decode cX6_leastSentInTrial 2 = .ok (.invokevirtual 223, 3) := by decide +kernel
theorem dX6_leastSentInTrial_5 : decode cX6_leastSentInTrial 5 = .ok (.istore_n 1, 1) := by decide +kernel
theorem dX6_leastSentInTrial_6 : decode cX6_leastSentInTrial 6 = .ok (.iconst 1, 1) := by decide +kernel
theorem dX6_leastSentInTrial_7 : decode cX6_leastSentInTrial 7 = .ok (.istore_n 2, 1) := by decide +kernel
theorem dX6_leastSentInTrial_8 : decode cX6_leastSentInTrial 8 = .ok (.iload_n 2, 1) := by decide +kernel
theorem dX6_leastSentInTrial_9 : decode cX6_leastSentInTrial 9 = .ok (.aload_n 0, 1) := by decide +kernel
theorem dX6_leastSentInTrial_10 : decode cX6_leastSentInTrial 10 = .ok (.getfield 16, 3) := by decide +kernel
theorem dX6_leastSentInTrial_13 : decode cX6_leastSentInTrial 13 = .ok (.getfield 60, 3) := by decide +kernel
theorem dX6_leastSentInTrial_16 : decode cX6_leastSentInTrial 16 = .ok (.if_icmp .ge 19, 3) := by decide +kernel
theorem dX6_leastSentInTrial_19 : decode cX6_leastSentInTrial 19 = .ok (.iload_n 1, 1) := by decide +kernel
theorem dX6_leastSentInTrial_20 : decode cX6_leastSentInTrial 20 = .ok (.aload_n 0, 1) := by decide +kernel
theorem dX6_leastSentInTrial_21 : decode cX6_leastSentInTrial 21 = .ok (.iload_n 2, 1) := by decide +kernel
theorem dX6_leastSentInTrial_22 : decode cX6_leastSentInTrial 22 = .ok (.invokevirtual 223, 3) := by decide +kernel
theorem dX6_leastSentInTrial_25 : decode cX6_leastSentInTrial 25 = .ok (.invokestatic 218, 3) := by decide +kernel
theorem dX6_leastSentInTrial_28 : decode cX6_leastSentInTrial 28 = .ok (.istore_n 1, 1) := by decide +kernel
theorem dX6_leastSentInTrial_29 : decode cX6_leastSentInTrial 29 = .ok (.iinc 2 1, 3) := by decide +kernel
theorem dX6_leastSentInTrial_32 : decode cX6_leastSentInTrial 32 = .ok (.goto (-24), 3) := by decide +kernel
theorem dX6_leastSentInTrial_35 : decode cX6_leastSentInTrial 35 = .ok (.iload_n 1, 1) := by decide +kernel
theorem dX6_leastSentInTrial_36 : decode cX6_leastSentInTrial 36 = .ok (.ireturn, 1) := by decide +kernel
theorem dX6_drawnNumber_0 : decode cX6_drawnNumber 0 = .ok (.ldc2_w 229, 3) := by decide +kernel
theorem dX6_drawnNumber_3 : decode cX6_drawnNumber 3 = .ok (.iload_n 0, 1) := by decide +kernel
theorem dX6_drawnNumber_4 : decode cX6_drawnNumber 4 = .ok (.i2l, 1) := by decide +kernel
theorem dX6_drawnNumber_5 : decode cX6_drawnNumber 5 = .ok (.lmul, 1) := by decide +kernel
theorem dX6_drawnNumber_6 : decode cX6_drawnNumber 6 = .ok (.ldc2_w 231, 3) := by decide +kernel
theorem dX6_drawnNumber_9 : decode cX6_drawnNumber 9 = .ok (.iload_n 1, 1) := by decide +kernel
theorem dX6_drawnNumber_10 : decode cX6_drawnNumber 10 = .ok (.i2l, 1) := by decide +kernel
theorem dX6_drawnNumber_11 : decode cX6_drawnNumber 11 = .ok (.lmul, 1) := by decide +kernel
theorem dX6_drawnNumber_12 : decode cX6_drawnNumber 12 = .ok (.ladd, 1) := by decide +kernel
theorem dX6_drawnNumber_13 : decode cX6_drawnNumber 13 = .ok (.ldc2_w 233, 3) := by decide +kernel
theorem dX6_drawnNumber_16 : decode cX6_drawnNumber 16 = .ok (.iload_n 2, 1) := by decide +kernel
theorem dX6_drawnNumber_17 : decode cX6_drawnNumber 17 = .ok (.i2l, 1) := by decide +kernel
theorem dX6_drawnNumber_18 : decode cX6_drawnNumber 18 = .ok (.lmul, 1) := by decide +kernel
theorem dX6_drawnNumber_19 : decode cX6_drawnNumber 19 = .ok (.ladd, 1) := by decide +kernel
theorem dX6_drawnNumber_20 : decode cX6_drawnNumber 20 = .ok (.lconst 1, 1) := by decide +kernel
theorem dX6_drawnNumber_21 : decode cX6_drawnNumber 21 = .ok (.ladd, 1) := by decide +kernel
theorem dX6_drawnNumber_22 : decode cX6_drawnNumber 22 = .ok (.lstore_n 3, 1) := by decide +kernel
theorem dX6_drawnNumber_23 : decode cX6_drawnNumber 23 = .ok (.lload_n 3, 1) := by decide +kernel
theorem dX6_drawnNumber_24 : decode cX6_drawnNumber 24 = .ok (.lload_n 3, 1) := by decide +kernel
theorem dX6_drawnNumber_25 : decode cX6_drawnNumber 25 = .ok (.lmul, 1) := by decide +kernel
theorem dX6_drawnNumber_26 : decode cX6_drawnNumber 26 = .ok (.ldc2_w 235, 3) := by decide +kernel
theorem dX6_drawnNumber_29 : decode cX6_drawnNumber 29 = .ok (.lrem, 1) := by decide +kernel
theorem dX6_drawnNumber_30 : decode cX6_drawnNumber 30 = .ok (.l2i, 1) := by decide +kernel
theorem dX6_drawnNumber_31 : decode cX6_drawnNumber 31 = .ok (.ireturn, 1) := by decide +kernel
theorem dX7_init_0 : decode cX7_init 0 = .ok (.aload_n 0, 1) := by decide +kernel
theorem dX7_init_1 : decode cX7_init 1 = .ok (.invokespecial 1, 3) := by decide +kernel
theorem dX7_init_4 : decode cX7_init 4 = .ok (.aload_n 0, 1) := by decide +kernel
theorem dX7_init_5 : decode cX7_init 5 = .ok (.sipush 200, 3) := by decide +kernel
theorem dX7_init_8 : decode cX7_init 8 = .ok (.newarray .int, 2) := by decide +kernel
theorem dX7_init_10 : decode cX7_init 10 = .ok (.putfield 7, 3) := by decide +kernel
theorem dX7_init_13 : decode cX7_init 13 = .ok (.aload_n 0, 1) := by decide +kernel
theorem dX7_init_14 : decode cX7_init 14 = .ok (.sipush 1320, 3) := by decide +kernel
theorem dX7_init_17 : decode cX7_init 17 = .ok (.newarray .int, 2) := by decide +kernel
theorem dX7_init_19 : decode cX7_init 19 = .ok (.putfield 13, 3) := by decide +kernel
theorem dX7_init_22 : decode cX7_init 22 = .ok (.aload_n 0, 1) := by decide +kernel
theorem dX7_init_23 : decode cX7_init 23 = .ok (.sipush 1760, 3) := by decide +kernel
theorem dX7_init_26 : decode cX7_init 26 = .ok (.newarray .int, 2) := by decide +kernel
theorem dX7_init_28 : decode cX7_init 28 = .ok (.putfield 16, 3) := by decide +kernel
theorem dX7_init_31 : decode cX7_init 31 = .ok (.aload_n 0, 1) := by decide +kernel
theorem dX7_init_32 : decode cX7_init 32 = .ok (.iconst 4, 1) := by decide +kernel
theorem dX7_init_33 : decode cX7_init 33 = .ok (.newarray .int, 2) := by decide +kernel
theorem dX7_init_35 : decode cX7_init 35 = .ok (.putfield 19, 3) := by decide +kernel
theorem dX7_init_38 : decode cX7_init 38 = .ok (.aload_n 0, 1) := by decide +kernel
theorem dX7_init_39 : decode cX7_init 39 = .ok (.bipush 6, 2) := by decide +kernel
theorem dX7_init_41 : decode cX7_init 41 = .ok (.newarray .int, 2) := by decide +kernel
theorem dX7_init_43 : decode cX7_init 43 = .ok (.putfield 22, 3) := by decide +kernel
theorem dX7_init_46 : decode cX7_init 46 = .ok (.aload_n 0, 1) := by decide +kernel
theorem dX7_init_47 : decode cX7_init 47 = .ok (.bipush 6, 2) := by decide +kernel
theorem dX7_init_49 : decode cX7_init 49 = .ok (.newarray .int, 2) := by decide +kernel
theorem dX7_init_51 : decode cX7_init 51 = .ok (.putfield 25, 3) := by decide +kernel
theorem dX7_init_54 : decode cX7_init 54 = .ok (.aload_n 0, 1) := by decide +kernel
theorem dX7_init_55 : decode cX7_init 55 = .ok (.bipush 6, 2) := by decide +kernel
theorem dX7_init_57 : decode cX7_init 57 = .ok (.newarray .int, 2) := by decide +kernel
theorem dX7_init_59 : decode cX7_init 59 = .ok (.putfield 28, 3) := by decide +kernel
theorem dX7_init_62 : decode cX7_init 62 = .ok (.aload_n 0, 1) := by decide +kernel
theorem dX7_init_63 : decode cX7_init 63 = .ok (.bipush 6, 2) := by decide +kernel
theorem dX7_init_65 : decode cX7_init 65 = .ok (.newarray .int, 2) := by decide +kernel
theorem dX7_init_67 : decode cX7_init 67 = .ok (.putfield 31, 3) := by decide +kernel
theorem dX7_init_70 : decode cX7_init 70 = .ok (.aload_n 0, 1) := by decide +kernel
theorem dX7_init_71 : decode cX7_init 71 = .ok (.invokevirtual 34, 3) := by decide +kernel
theorem dX7_init_74 : decode cX7_init 74 = .ok (.aload_n 0, 1) := by decide +kernel
theorem dX7_init_75 : decode cX7_init 75 = .ok (.iconst 4, 1) := by decide +kernel
theorem dX7_init_76 : decode cX7_init 76 = .ok (.putfield 37, 3) := by decide +kernel
theorem dX7_init_79 : decode cX7_init 79 = .ok (.aload_n 0, 1) := by decide +kernel
theorem dX7_init_80 : decode cX7_init 80 = .ok (.iconst 2, 1) := by decide +kernel
theorem dX7_init_81 : decode cX7_init 81 = .ok (.iconst 0, 1) := by decide +kernel
theorem dX7_init_82 : decode cX7_init 82 = .ok (.iconst 1, 1) := by decide +kernel
theorem dX7_init_83 : decode cX7_init 83 = .ok (.invokevirtual 41, 3) := by decide +kernel
theorem dX7_init_86 : decode cX7_init 86 = .ok (.aload_n 0, 1) := by decide +kernel
theorem dX7_init_87 : decode cX7_init 87 = .ok (.iconst 2, 1) := by decide +kernel
theorem dX7_init_88 : decode cX7_init 88 = .ok (.iconst 1, 1) := by decide +kernel
theorem dX7_init_89 : decode cX7_init 89 = .ok (.iconst 2, 1) := by decide +kernel
theorem dX7_init_90 : decode cX7_init 90 = .ok (.invokevirtual 41, 3) := by decide +kernel
theorem dX7_init_93 : decode cX7_init 93 = .ok (.aload_n 0, 1) := by decide +kernel
theorem dX7_init_94 : decode cX7_init 94 = .ok (.iconst 2, 1) := by decide +kernel
theorem dX7_init_95 : decode cX7_init 95 = .ok (.iconst 2, 1) := by decide +kernel
theorem dX7_init_96 : decode cX7_init 96 = .ok (.iconst 3, 1) := by decide +kernel
theorem dX7_init_97 : decode cX7_init 97 = .ok (.invokevirtual 41, 3) := by decide +kernel
theorem dX7_init_100 : decode cX7_init 100 = .ok (.aload_n 0, 1) := by decide +kernel
theorem dX7_init_101 : decode cX7_init 101 = .ok (.iconst 2, 1) := by decide +kernel
theorem dX7_init_102 : decode cX7_init 102 = .ok (.iconst 0, 1) := by decide +kernel
theorem dX7_init_103 : decode cX7_init 103 = .ok (.iconst 1, 1) := by decide +kernel
theorem dX7_init_104 : decode cX7_init 104 = .ok (.iconst 5, 1) := by decide +kernel
theorem dX7_init_105 : decode cX7_init 105 = .ok (.invokevirtual 45, 3) := by decide +kernel
theorem dX7_init_108 : decode cX7_init 108 = .ok (.aload_n 0, 1) := by decide +kernel
theorem dX7_init_109 : decode cX7_init 109 = .ok (.iconst 2, 1) := by decide +kernel
theorem dX7_init_110 : decode cX7_init 110 = .ok (.iconst 2, 1) := by decide +kernel
theorem dX7_init_111 : decode cX7_init 111 = .ok (.iconst 1, 1) := by decide +kernel
theorem dX7_init_112 : decode cX7_init 112 = .ok (.iconst 5, 1) := by decide +kernel
theorem dX7_init_113 : decode cX7_init 113 = .ok (.invokevirtual 45, 3) := by decide +kernel
theorem dX7_init_116 : decode cX7_init 116 = .ok (.aload_n 0, 1) := by decide +kernel
theorem dX7_init_117 : decode cX7_init 117 = .ok (.iconst 2, 1) := by decide +kernel
theorem dX7_init_118 : decode cX7_init 118 = .ok (.iconst 3, 1) := by decide +kernel
theorem dX7_init_119 : decode cX7_init 119 = .ok (.iconst 2, 1) := by decide +kernel
theorem dX7_init_120 : decode cX7_init 120 = .ok (.iconst 1, 1) := by decide +kernel
theorem dX7_init_121 : decode cX7_init 121 = .ok (.invokevirtual 45, 3) := by decide +kernel
theorem dX7_init_124 : decode cX7_init 124 = .ok (.aload_n 0, 1) := by decide +kernel
theorem dX7_init_125 : decode cX7_init 125 = .ok (.iconst 2, 1) := by decide +kernel
theorem dX7_init_126 : decode cX7_init 126 = .ok (.iconst 1, 1) := by decide +kernel
theorem dX7_init_127 : decode cX7_init 127 = .ok (.iconst 0, 1) := by decide +kernel
theorem dX7_init_128 : decode cX7_init 128 = .ok (.iconst 2, 1) := by decide +kernel
theorem dX7_init_129 : decode cX7_init 129 = .ok (.invokevirtual 45, 3) := by decide +kernel
theorem dX7_init_132 : decode cX7_init 132 = .ok (.aload_n 0, 1) := by decide +kernel
theorem dX7_init_133 : decode cX7_init 133 = .ok (.invokevirtual 49, 3) := by decide +kernel
theorem dX7_init_136 : decode cX7_init 136 = .ok (.return_, 1) := by decide +kernel
theorem dX7_isIn_0 : decode cX7_isIn 0 = .ok (.iload_n 0, 1) := by decide +kernel
theorem dX7_isIn_1 : decode cX7_isIn 1 = .ok (.iload_n 1, 1) := by decide +kernel
theorem dX7_isIn_2 : decode cX7_isIn 2 = .ok (.if_icmp .lt 12, 3) := by decide +kernel
theorem dX7_isIn_5 : decode cX7_isIn 5 = .ok (.iload_n 0, 1) := by decide +kernel
end
section
theorem dX7_isIn_6 : decode cX7_isIn 6 = .ok (.iload_n 2, 1) := by decide +kernel
theorem dX7_isIn_7 : decode cX7_isIn 7 = .ok (.if_icmp .gt 7, 3) := by decide +kernel
theorem dX7_isIn_10 : decode cX7_isIn 10 = .ok (.iconst 1, 1) := by decide +kernel
theorem dX7_isIn_11 : decode cX7_isIn 11 = .ok (.goto 4, 3) := by decide +kernel
theorem dX7_isIn_14 : decode cX7_isIn 14 = .ok (.iconst 0, 1) := by decide +kernel
theorem dX7_isIn_15 : decode cX7_isIn 15 = .ok (.ireturn, 1) := by decide +kernel
theorem dX7_has_0 : decode cX7_has 0 = .ok (.iload_n 0, 1) := by decide +kernel
theorem dX7_has_1 : decode cX7_has 1 = .ok (.iload_n 1, 1) := by decide +kernel
theorem dX7_has_2 : decode cX7_has 2 = .ok (.ishr, 1) := by decide +kernel
theorem dX7_has_3 : decode cX7_has 3 = .ok (.iconst 1, 1) := by decide +kernel
theorem dX7_has_4 : decode cX7_has 4 = .ok (.iand, 1) := by decide +kernel
theorem dX7_has_5 : decode cX7_has 5 = .ok (.iconst 1, 1) := by decide +kernel
theorem dX7_has_6 : decode cX7_has 6 = .ok (.if_icmp .ne 7, 3) := by decide +kernel
theorem dX7_has_9 : decode cX7_has 9 = .ok (.iconst 1, 1) := by decide +kernel
theorem dX7_has_10 : decode cX7_has 10 = .ok (.goto 4, 3) := by decide +kernel
theorem dX7_has_13 : decode cX7_has 13 = .ok (.iconst 0, 1) := by decide +kernel
theorem dX7_has_14 : decode cX7_has 14 = .ok (.ireturn, 1) := by decide +kernel
theorem dX7_bits_0 : decode cX7_bits 0 = .ok (.iconst 0, 1) := by decide +kernel
theorem dX7_bits_1 : decode cX7_bits 1 = .ok (.istore_n 1, 1) := by decide +kernel
theorem dX7_bits_2 : decode cX7_bits 2 = .ok (.iconst 0, 1) := by decide +kernel
theorem dX7_bits_3 : decode cX7_bits 3 = .ok (.istore_n 2, 1) := by decide +kernel
theorem dX7_bits_4 : decode cX7_bits 4 = .ok (.iload_n 2, 1) := by decide +kernel
theorem dX7_bits_5 : decode cX7_bits 5 = .ok (.bipush 6, 2) := by decide +kernel
theorem dX7_bits_7 : decode cX7_bits 7 = .ok (.if_icmp .ge 17, 3) := by decide +kernel
theorem dX7_bits_10 : decode cX7_bits 10 = .ok (.iload_n 1, 1) := by decide +kernel
theorem dX7_bits_11 : decode cX7_bits 11 = .ok (.iload_n 0, 1) := by decide +kernel
theorem dX7_bits_12 : decode cX7_bits 12 = .ok (.iload_n 2, 1) := by decide +kernel
theorem dX7_bits_13 : decode cX7_bits 13 = .ok (.ishr, 1) := by decide +kernel
theorem dX7_bits_14 : decode cX7_bits 14 = .ok (.iconst 1, 1) := by decide +kernel
theorem dX7_bits_15 : decode cX7_bits 15 = .ok (.iand, 1) := by decide +kernel
theorem dX7_bits_16 : decode cX7_bits 16 = .ok (.iadd, 1) := by decide +kernel
theorem dX7_bits_17 : decode cX7_bits 17 = .ok (.istore_n 1, 1) := by decide +kernel
theorem dX7_bits_18 : decode cX7_bits 18 = .ok (.iinc 2 1, 3) := by decide +kernel
theorem dX7_bits_21 : decode cX7_bits 21 = .ok (.goto (-17), 3) := by decide +kernel
theorem dX7_bits_24 : decode cX7_bits 24 = .ok (.iload_n 1, 1) := by decide +kernel
theorem dX7_bits_25 : decode cX7_bits 25 = .ok (.ireturn, 1) := by decide +kernel
theorem dX7_at_0 : decode cX7_at 0 = .ok (.sipush 440, 3) := by decide +kernel
theorem dX7_at_3 : decode cX7_at 3 = .ok (.iload_n 0, 1) := by decide +kernel
theorem dX7_at_4 : decode cX7_at 4 = .ok (.imul, 1) := by decide +kernel
theorem dX7_at_5 : decode cX7_at 5 = .ok (.bipush 70, 2) := by decide +kernel
theorem dX7_at_7 : decode cX7_at 7 = .ok (.iload_n 1, 1) := by decide +kernel
theorem dX7_at_8 : decode cX7_at 8 = .ok (.imul, 1) := by decide +kernel
theorem dX7_at_9 : decode cX7_at 9 = .ok (.iadd, 1) := by decide +kernel
theorem dX7_at_10 : decode cX7_at 10 = .ok (.ireturn, 1) := by decide +kernel
theorem dX7_hears_0 : decode cX7_hears 0 = .ok (.aload_n 0, 1) := by decide +kernel
theorem dX7_hears_1 : decode cX7_hears 1 = .ok (.getfield 13, 3) := by decide +kernel
theorem dX7_hears_4 : decode cX7_hears 4 = .ok (.sipush 440, 3) := by decide +kernel
theorem dX7_hears_7 : decode cX7_hears 7 = .ok (.iload_n 1, 1) := by decide +kernel
theorem dX7_hears_8 : decode cX7_hears 8 = .ok (.imul, 1) := by decide +kernel
theorem dX7_hears_9 : decode cX7_hears 9 = .ok (.sipush 420, 3) := by decide +kernel
theorem dX7_hears_12 : decode cX7_hears 12 = .ok (.iadd, 1) := by decide +kernel
theorem dX7_hears_13 : decode cX7_hears 13 = .ok (.iload_n 2, 1) := by decide +kernel
theorem dX7_hears_14 : decode cX7_hears 14 = .ok (.iadd, 1) := by decide +kernel
theorem dX7_hears_15 : decode cX7_hears 15 = .ok (.dup2, 1) := by decide +kernel
theorem dX7_hears_16 : decode cX7_hears 16 = .ok (.iaload, 1) := by decide +kernel
theorem dX7_hears_17 : decode cX7_hears 17 = .ok (.iconst 1, 1) := by decide +kernel
theorem dX7_hears_18 : decode cX7_hears 18 = .ok (.iload_n 3, 1) := by decide +kernel
theorem dX7_hears_19 : decode cX7_hears 19 = .ok (.ishl, 1) := by decide +kernel
theorem dX7_hears_20 : decode cX7_hears 20 = .ok (.ior, 1) := by decide +kernel
theorem dX7_hears_21 : decode cX7_hears 21 = .ok (.iastore, 1) := by decide +kernel
theorem dX7_hears_22 : decode cX7_hears 22 = .ok (.aload_n 0, 1) := by decide +kernel
theorem dX7_hears_23 : decode cX7_hears 23 = .ok (.getfield 13, 3) := by decide +kernel
theorem dX7_hears_26 : decode cX7_hears 26 = .ok (.sipush 440, 3) := by decide +kernel
theorem dX7_hears_29 : decode cX7_hears 29 = .ok (.iload_n 1, 1) := by decide +kernel
theorem dX7_hears_30 : decode cX7_hears 30 = .ok (.imul, 1) := by decide +kernel
theorem dX7_hears_31 : decode cX7_hears 31 = .ok (.sipush 420, 3) := by decide +kernel
theorem dX7_hears_34 : decode cX7_hears 34 = .ok (.iadd, 1) := by decide +kernel
theorem dX7_hears_35 : decode cX7_hears 35 = .ok (.iload_n 3, 1) := by decide +kernel
theorem dX7_hears_36 : decode cX7_hears 36 = .ok (.iadd, 1) := by decide +kernel
theorem dX7_hears_37 : decode cX7_hears 37 = .ok (.dup2, 1) := by decide +kernel
theorem dX7_hears_38 : decode cX7_hears 38 = .ok (.iaload, 1) := by decide +kernel
theorem dX7_hears_39 : decode cX7_hears 39 = .ok (.iconst 1, 1) := by decide +kernel
theorem dX7_hears_40 : decode cX7_hears 40 = .ok (.iload_n 2, 1) := by decide +kernel
theorem dX7_hears_41 : decode cX7_hears 41 = .ok (.ishl, 1) := by decide +kernel
theorem dX7_hears_42 : decode cX7_hears 42 = .ok (.ior, 1) := by decide +kernel
theorem dX7_hears_43 : decode cX7_hears 43 = .ok (.iastore, 1) := by decide +kernel
theorem dX7_hears_44 : decode cX7_hears 44 = .ok (.return_, 1) := by decide +kernel
theorem dX7_adds_0 : decode cX7_adds 0 = .ok (.iload_n 1, 1) := by decide +kernel
theorem dX7_adds_1 : decode cX7_adds 1 = .ok (.iload_n 2, 1) := by decide +kernel
theorem dX7_adds_2 : decode cX7_adds 2 = .ok (.invokestatic 52, 3) := by decide +kernel
theorem dX7_adds_5 : decode cX7_adds 5 = .ok (.istore 5, 2) := by decide +kernel
theorem dX7_adds_7 : decode cX7_adds 7 = .ok (.aload_n 0, 1) := by decide +kernel
theorem dX7_adds_8 : decode cX7_adds 8 = .ok (.getfield 13, 3) := by decide +kernel
theorem dX7_adds_11 : decode cX7_adds 11 = .ok (.iload 5, 2) := by decide +kernel
theorem dX7_adds_13 : decode cX7_adds 13 = .ok (.bipush 8, 2) := by decide +kernel
theorem dX7_adds_15 : decode cX7_adds 15 = .ok (.iadd, 1) := by decide +kernel
theorem dX7_adds_16 : decode cX7_adds 16 = .ok (.iaload, 1) := by decide +kernel
theorem dX7_adds_17 : decode cX7_adds 17 = .ok (.istore 6, 2) := by decide +kernel
theorem dX7_adds_19 : decode cX7_adds 19 = .ok (.aload_n 0, 1) := by decide +kernel
theorem dX7_adds_20 : decode cX7_adds 20 = .ok (.getfield 13, 3) := by decide +kernel
theorem dX7_adds_23 : decode cX7_adds 23 = .ok (.iload 5, 2) := by decide +kernel
theorem dX7_adds_25 : decode cX7_adds 25 = .ok (.bipush 9, 2) := by decide +kernel
theorem dX7_adds_27 : decode cX7_adds 27 = .ok (.iadd, 1) := by decide +kernel
theorem dX7_adds_28 : decode cX7_adds 28 = .ok (.iconst 2, 1) := by decide +kernel
theorem dX7_adds_29 : decode cX7_adds 29 = .ok (.iload 6, 2) := by decide +kernel
theorem dX7_adds_31 : decode cX7_adds 31 = .ok (.imul, 1) := by decide +kernel
theorem dX7_adds_32 : decode cX7_adds 32 = .ok (.iadd, 1) := by decide +kernel
theorem dX7_adds_33 : decode cX7_adds 33 = .ok (.iload_n 3, 1) := by decide +kernel
theorem dX7_adds_34 : decode cX7_adds 34 = .ok (.iastore, 1) := by decide +kernel
theorem dX7_adds_35 : decode cX7_adds 35 = .ok (.aload_n 0, 1) := by decide +kernel
theorem dX7_adds_36 : decode cX7_adds 36 = .ok (.getfield 13, 3) := by decide +kernel
theorem dX7_adds_39 : decode cX7_adds 39 = .ok (.iload 5, 2) := by decide +kernel
theorem dX7_adds_41 : decode cX7_adds 41 = .ok (.bipush 9, 2) := by decide +kernel
theorem dX7_adds_43 : decode cX7_adds 43 = .ok (.iadd, 1) := by decide +kernel
theorem dX7_adds_44 : decode cX7_adds 44 = .ok (.iconst 2, 1) := by decide +kernel
theorem dX7_adds_45 : decode cX7_adds 45 = .ok (.iload 6, 2) := by decide +kernel
theorem dX7_adds_47 : decode cX7_adds 47 = .ok (.imul, 1) := by decide +kernel
theorem dX7_adds_48 : decode cX7_adds 48 = .ok (.iadd, 1) := by decide +kernel
theorem dX7_adds_49 : decode cX7_adds 49 = .ok (.iconst 1, 1) := by decide +kernel
theorem dX7_adds_50 : decode cX7_adds 50 = .ok (.iadd, 1) := by decide +kernel
theorem dX7_adds_51 : decode cX7_adds 51 = .ok (.iload 4, 2) := by decide +kernel
theorem dX7_adds_53 : decode cX7_adds 53 = .ok (.iastore, 1) := by decide +kernel
theorem dX7_adds_54 : decode cX7_adds 54 = .ok (.aload_n 0, 1) := by decide +kernel
theorem dX7_adds_55 : decode cX7_adds 55 = .ok (.getfield 13, 3) := by decide +kernel
theorem dX7_adds_58 : decode cX7_adds 58 = .ok (.iload 5, 2) := by decide +kernel
theorem dX7_adds_60 : decode cX7_adds 60 = .ok (.bipush 8, 2) := by decide +kernel
theorem dX7_adds_62 : decode cX7_adds 62 = .ok (.iadd, 1) := by decide +kernel
theorem dX7_adds_63 : decode cX7_adds 63 = .ok (.dup2, 1) := by decide +kernel
theorem dX7_adds_64 : decode cX7_adds 64 = .ok (.iaload, 1) := by decide +kernel
theorem dX7_adds_65 : decode cX7_adds 65 = .ok (.iconst 1, 1) := by decide +kernel
theorem dX7_adds_66 : decode cX7_adds 66 = .ok (.iadd, 1) := by decide +kernel
theorem dX7_adds_67 : decode cX7_adds 67 = .ok (.iastore, 1) := by decide +kernel
theorem dX7_adds_68 : decode cX7_adds 68 = .ok (.return_, 1) := by decide +kernel
theorem dX7_copies_0 : decode cX7_copies 0 = .ok (.iconst 0, 1) := by decide +kernel
theorem dX7_copies_1 : decode cX7_copies 1 = .ok (.istore_n 3, 1) := by decide +kernel
theorem dX7_copies_2 : decode cX7_copies 2 = .ok (.iload_n 3, 1) := by decide +kernel
theorem dX7_copies_3 : decode cX7_copies 3 = .ok (.sipush 440, 3) := by decide +kernel
theorem dX7_copies_6 : decode cX7_copies 6 = .ok (.if_icmp .ge 33, 3) := by decide +kernel
theorem dX7_copies_9 : decode cX7_copies 9 = .ok (.aload_n 0, 1) := by decide +kernel
theorem dX7_copies_10 : decode cX7_copies 10 = .ok (.getfield 13, 3) := by decide +kernel
theorem dX7_copies_13 : decode cX7_copies 13 = .ok (.sipush 440, 3) := by decide +kernel
theorem dX7_copies_16 : decode cX7_copies 16 = .ok (.iload_n 2, 1) := by decide +kernel
theorem dX7_copies_17 : decode cX7_copies 17 = .ok (.imul, 1) := by decide +kernel
theorem dX7_copies_18 : decode cX7_copies 18 = .ok (.iload_n 3, 1) := by decide +kernel
theorem dX7_copies_19 : decode cX7_copies 19 = .ok (.iadd, 1) := by decide +kernel
theorem dX7_copies_20 : decode cX7_copies 20 = .ok (.aload_n 0, 1) := by decide +kernel
theorem dX7_copies_21 : decode cX7_copies 21 = .ok (.getfield 13, 3) := by decide +kernel
theorem dX7_copies_24 : decode cX7_copies 24 = .ok (.sipush 440, 3) := by decide +kernel
theorem dX7_copies_27 : decode cX7_copies 27 = .ok (.iload_n 1, 1) := by decide +kernel
theorem dX7_copies_28 : decode cX7_copies 28 = .ok (.imul, 1) := by decide +kernel
theorem dX7_copies_29 : decode cX7_copies 29 = .ok (.iload_n 3, 1) := by decide +kernel
theorem dX7_copies_30 : decode cX7_copies 30 = .ok (.iadd, 1) := by decide +kernel
theorem dX7_copies_31 : decode cX7_copies 31 = .ok (.iaload, 1) := by decide +kernel
theorem dX7_copies_32 : decode cX7_copies 32 = .ok (.iastore, 1) := by decide +kernel
theorem dX7_copies_33 : decode cX7_copies 33 = .ok (.iinc 3 1, 3) := by decide +kernel
theorem dX7_copies_36 : decode cX7_copies 36 = .ok (.goto (-34), 3) := by decide +kernel
theorem dX7_copies_39 : decode cX7_copies 39 = .ok (.return_, 1) := by decide +kernel
theorem dX7_clears_0 : decode cX7_clears 0 = .ok (.aload_n 0, 1) := by decide +kernel
theorem dX7_clears_1 : decode cX7_clears 1 = .ok (.iconst 0, 1) := by decide +kernel
theorem dX7_clears_2 : decode cX7_clears 2 = .ok (.putfield 37, 3) := by decide +kernel
theorem dX7_clears_5 : decode cX7_clears 5 = .ok (.aload_n 0, 1) := by decide +kernel
theorem dX7_clears_6 : decode cX7_clears 6 = .ok (.getfield 19, 3) := by decide +kernel
theorem dX7_clears_9 : decode cX7_clears 9 = .ok (.iconst 0, 1) := by decide +kernel
theorem dX7_clears_10 : decode cX7_clears 10 = .ok (.iconst 4, 1) := by decide +kernel
theorem dX7_clears_11 : decode cX7_clears 11 = .ok (.iastore, 1) := by decide +kernel
theorem dX7_clears_12 : decode cX7_clears 12 = .ok (.aload_n 0, 1) := by decide +kernel
theorem dX7_clears_13 : decode cX7_clears 13 = .ok (.getfield 19, 3) := by decide +kernel
theorem dX7_clears_16 : decode cX7_clears 16 = .ok (.iconst 1, 1) := by decide +kernel
theorem dX7_clears_17 : decode cX7_clears 17 = .ok (.bipush 32, 2) := by decide +kernel
theorem dX7_clears_19 : decode cX7_clears 19 = .ok (.iastore, 1) := by decide +kernel
theorem dX7_clears_20 : decode cX7_clears 20 = .ok (.aload_n 0, 1) := by decide +kernel
theorem dX7_clears_21 : decode cX7_clears 21 = .ok (.getfield 19, 3) := by decide +kernel
theorem dX7_clears_24 : decode cX7_clears 24 = .ok (.iconst 2, 1) := by decide +kernel
theorem dX7_clears_25 : decode cX7_clears 25 = .ok (.iconst 3, 1) := by decide +kernel
theorem dX7_clears_26 : decode cX7_clears 26 = .ok (.iastore, 1) := by decide +kernel
theorem dX7_clears_27 : decode cX7_clears 27 = .ok (.aload_n 0, 1) := by decide +kernel
theorem dX7_clears_28 : decode cX7_clears 28 = .ok (.getfield 19, 3) := by decide +kernel
theorem dX7_clears_31 : decode cX7_clears 31 = .ok (.iconst 3, 1) := by decide +kernel
theorem dX7_clears_32 : decode cX7_clears 32 = .ok (.iconst 5, 1) := by decide +kernel
theorem dX7_clears_33 : decode cX7_clears 33 = .ok (.iastore, 1) := by decide +kernel
theorem dX7_clears_34 : decode cX7_clears 34 = .ok (.iconst 0, 1) := by decide +kernel
theorem dX7_clears_35 : decode cX7_clears 35 = .ok (.istore_n 1, 1) := by decide +kernel
theorem dX7_clears_36 : decode cX7_clears 36 = .ok (.iload_n 1, 1) := by decide +kernel
theorem dX7_clears_37 : decode cX7_clears 37 = .ok (.sipush 440, 3) := by decide +kernel
theorem dX7_clears_40 : decode cX7_clears 40 = .ok (.if_icmp .ge 20, 3) := by decide +kernel
theorem dX7_clears_43 : decode cX7_clears 43 = .ok (.aload_n 0, 1) := by decide +kernel
theorem dX7_clears_44 : decode cX7_clears 44 = .ok (.getfield 13, 3) := by decide +kernel
theorem dX7_clears_47 : decode cX7_clears 47 = .ok (.sipush 880, 3) := by decide +kernel
theorem dX7_clears_50 : decode cX7_clears 50 = .ok (.iload_n 1, 1) := by decide +kernel
theorem dX7_clears_51 : decode cX7_clears 51 = .ok (.iadd, 1) := by decide +kernel
theorem dX7_clears_52 : decode cX7_clears 52 = .ok (.iconst 0, 1) := by decide +kernel
theorem dX7_clears_53 : decode cX7_clears 53 = .ok (.iastore, 1) := by decide +kernel
theorem dX7_clears_54 : decode cX7_clears 54 = .ok (.iinc 1 1, 3) := by decide +kernel
theorem dX7_clears_57 : decode cX7_clears 57 = .ok (.goto (-21), 3) := by decide +kernel
theorem dX7_clears_60 : decode cX7_clears 60 = .ok (.return_, 1) := by decide +kernel
theorem dX7_takes_0 : decode cX7_takes 0 = .ok (.aload_n 0, 1) := by decide +kernel
theorem dX7_takes_1 : decode cX7_takes 1 = .ok (.aload_n 0, 1) := by decide +kernel
theorem dX7_takes_2 : decode cX7_takes 2 = .ok (.getfield 37, 3) := by decide +kernel
theorem dX7_takes_5 : decode cX7_takes 5 = .ok (.putfield 56, 3) := by decide +kernel
theorem dX7_takes_8 : decode cX7_takes 8 = .ok (.aload_n 0, 1) := by decide +kernel
theorem dX7_takes_9 : decode cX7_takes 9 = .ok (.aload_n 0, 1) := by decide +kernel
theorem dX7_takes_10 : decode cX7_takes 10 = .ok (.getfield 19, 3) := by decide +kernel
theorem dX7_takes_13 : decode cX7_takes 13 = .ok (.iconst 0, 1) := by decide +kernel
theorem dX7_takes_14 : decode cX7_takes 14 = .ok (.iaload, 1) := by decide +kernel
theorem dX7_takes_15 : decode cX7_takes 15 = .ok (.putfield 59, 3) := by decide +kernel
theorem dX7_takes_18 : decode cX7_takes 18 = .ok (.aload_n 0, 1) := by decide +kernel
theorem dX7_takes_19 : decode cX7_takes 19 = .ok (.aload_n 0, 1) := by decide +kernel
theorem dX7_takes_20 : decode cX7_takes 20 = .ok (.getfield 19, 3) := by decide +kernel
theorem dX7_takes_23 : decode cX7_takes 23 = .ok (.iconst 1, 1) := by decide +kernel
theorem dX7_takes_24 : decode cX7_takes 24 = .ok (.iaload, 1) := by decide +kernel
theorem dX7_takes_25 : decode cX7_takes 25 = .ok (.putfield 62, 3) := by decide +kernel
theorem dX7_takes_28 : decode cX7_takes 28 = .ok (.aload_n 0, 1) := by decide +kernel
theorem dX7_takes_29 : decode cX7_takes 29 = .ok (.aload_n 0, 1) := by decide +kernel
theorem dX7_takes_30 : decode cX7_takes 30 = .ok (.getfield 19, 3) := by decide +kernel
theorem dX7_takes_33 : decode cX7_takes 33 = .ok (.iconst 2, 1) := by decide +kernel
theorem dX7_takes_34 : decode cX7_takes 34 = .ok (.iaload, 1) := by decide +kernel
theorem dX7_takes_35 : decode cX7_takes 35 = .ok (.putfield 65, 3) := by decide +kernel
theorem dX7_takes_38 : decode cX7_takes 38 = .ok (.aload_n 0, 1) := by decide +kernel
theorem dX7_takes_39 : decode cX7_takes 39 = .ok (.aload_n 0, 1) := by decide +kernel
theorem dX7_takes_40 : decode cX7_takes 40 = .ok (.getfield 19, 3) := by decide +kernel
theorem dX7_takes_43 : decode cX7_takes 43 = .ok (.iconst 3, 1) := by decide +kernel
theorem dX7_takes_44 : decode cX7_takes 44 = .ok (.iaload, 1) := by decide +kernel
theorem dX7_takes_45 : decode cX7_takes 45 = .ok (.putfield 68, 3) := by decide +kernel
theorem dX7_takes_48 : decode cX7_takes 48 = .ok (.aload_n 0, 1) := by decide +kernel
theorem dX7_takes_49 : decode cX7_takes 49 = .ok (.iconst 2, 1) := by decide +kernel
theorem dX7_takes_50 : decode cX7_takes 50 = .ok (.iconst 0, 1) := by decide +kernel
theorem dX7_takes_51 : decode cX7_takes 51 = .ok (.invokevirtual 71, 3) := by decide +kernel
theorem dX7_takes_54 : decode cX7_takes 54 = .ok (.aload_n 0, 1) := by decide +kernel
theorem dX7_takes_55 : decode cX7_takes 55 = .ok (.iconst 0, 1) := by decide +kernel
theorem dX7_takes_56 : decode cX7_takes 56 = .ok (.putfield 75, 3) := by decide +kernel
theorem dX7_takes_59 : decode cX7_takes 59 = .ok (.iconst 0, 1) := by decide +kernel
theorem dX7_takes_60 : decode cX7_takes 60 = .ok (.istore_n 1, 1) := by decide +kernel
theorem dX7_takes_61 : decode cX7_takes 61 = .ok (.iload_n 1, 1) := by decide +kernel
theorem dX7_takes_62 : decode cX7_takes 62 = .ok (.aload_n 0, 1) := by decide +kernel
theorem dX7_takes_63 : decode cX7_takes 63 = .ok (.getfield 56, 3) := by decide +kernel
theorem dX7_takes_66 : decode cX7_takes 66 = .ok (.if_icmp .ge 31, 3) := by decide +kernel
theorem dX7_takes_69 : decode cX7_takes 69 = .ok (.aload_n 0, 1) := by decide +kernel
theorem dX7_takes_70 : decode cX7_takes 70 = .ok (.getfield 13, 3) := by decide +kernel
theorem dX7_takes_73 : decode cX7_takes 73 = .ok (.iconst 0, 1) := by decide +kernel
theorem dX7_takes_74 : decode cX7_takes 74 = .ok (.iload_n 1, 1) := by decide +kernel
theorem dX7_takes_75 : decode cX7_takes 75 = .ok (.invokestatic 52, 3) := by decide +kernel
theorem dX7_takes_78 : decode cX7_takes 78 = .ok (.iconst 0, 1) := by decide +kernel
theorem dX7_takes_79 : decode cX7_takes 79 = .ok (.iadd, 1) := by decide +kernel
theorem dX7_takes_80 : decode cX7_takes 80 = .ok (.aload_n 0, 1) := by decide +kernel
theorem dX7_takes_81 : decode cX7_takes 81 = .ok (.getfield 59, 3) := by decide +kernel
theorem dX7_takes_84 : decode cX7_takes 84 = .ok (.iastore, 1) := by decide +kernel
theorem dX7_takes_85 : decode cX7_takes 85 = .ok (.aload_n 0, 1) := by decide +kernel
theorem dX7_takes_86 : decode cX7_takes 86 = .ok (.iconst 0, 1) := by decide +kernel
theorem dX7_takes_87 : decode cX7_takes 87 = .ok (.iload_n 1, 1) := by decide +kernel
theorem dX7_takes_88 : decode cX7_takes 88 = .ok (.invokevirtual 78, 3) := by decide +kernel
theorem dX7_takes_91 : decode cX7_takes 91 = .ok (.iinc 1 1, 3) := by decide +kernel
theorem dX7_takes_94 : decode cX7_takes 94 = .ok (.goto (-33), 3) := by decide +kernel
theorem dX7_takes_97 : decode cX7_takes 97 = .ok (.return_, 1) := by decide +kernel
theorem dX7_letterAt_0 : decode cX7_letterAt 0 = .ok (.iload_n 1, 1) := by decide +kernel
theorem dX7_letterAt_1 : decode cX7_letterAt 1 = .ok (.aload_n 0, 1) := by decide +kernel
theorem dX7_letterAt_2 : decode cX7_letterAt 2 = .ok (.getfield 81, 3) := by decide +kernel
theorem dX7_letterAt_5 : decode cX7_letterAt 5 = .ok (.if_icmp .ge 12, 3) := by decide +kernel
theorem dX7_letterAt_8 : decode cX7_letterAt 8 = .ok (.aload_n 0, 1) := by decide +kernel
theorem dX7_letterAt_9 : decode cX7_letterAt 9 = .ok (.getfield 7, 3) := by decide +kernel
theorem dX7_letterAt_12 : decode cX7_letterAt 12 = .ok (.iload_n 1, 1) := by decide +kernel
theorem dX7_letterAt_13 : decode cX7_letterAt 13 = .ok (.iaload, 1) := by decide +kernel
theorem dX7_letterAt_14 : decode cX7_letterAt 14 = .ok (.goto 4, 3) := by decide +kernel
theorem dX7_letterAt_17 : decode cX7_letterAt 17 = .ok (.iconst 0, 1) := by decide +kernel
theorem dX7_letterAt_18 : decode cX7_letterAt 18 = .ok (.ireturn, 1) := by decide +kernel
theorem dX7_number_0 : decode cX7_number 0 = .ok (.aload_n 0, 1) := by decide +kernel
theorem dX7_number_1 : decode cX7_number 1 = .ok (.iconst 0, 1) := by decide +kernel
theorem dX7_number_2 : decode cX7_number 2 = .ok (.putfield 84, 3) := by decide +kernel
theorem dX7_number_5 : decode cX7_number 5 = .ok (.aload_n 0, 1) := by decide +kernel
theorem dX7_number_6 : decode cX7_number 6 = .ok (.iload_n 1, 1) := by decide +kernel
theorem dX7_number_7 : decode cX7_number 7 = .ok (.putfield 87, 3) := by decide +kernel
theorem dX7_number_10 : decode cX7_number 10 = .ok (.aload_n 0, 1) := by decide +kernel
theorem dX7_number_11 : decode cX7_number 11 = .ok (.getfield 87, 3) := by decide +kernel
theorem dX7_number_14 : decode cX7_number 14 = .ok (.iload_n 1, 1) := by decide +kernel
theorem dX7_number_15 : decode cX7_number 15 = .ok (.iconst 4, 1) := by decide +kernel
theorem dX7_number_16 : decode cX7_number 16 = .ok (.iadd, 1) := by decide +kernel
theorem dX7_number_17 : decode cX7_number 17 = .ok (.if_icmp .ge 66, 3) := by decide +kernel
theorem dX7_number_20 : decode cX7_number 20 = .ok (.aload_n 0, 1) := by decide +kernel
theorem dX7_number_21 : decode cX7_number 21 = .ok (.aload_n 0, 1) := by decide +kernel
theorem dX7_number_22 : decode cX7_number 22 = .ok (.getfield 87, 3) := by decide +kernel
theorem dX7_number_25 : decode cX7_number 25 = .ok (.invokevirtual 90, 3) := by decide +kernel
theorem dX7_number_28 : decode cX7_number 28 = .ok (.bipush 48, 2) := by decide +kernel
theorem dX7_number_30 : decode cX7_number 30 = .ok (.if_icmp .lt 53, 3) := by decide +kernel
theorem dX7_number_33 : decode cX7_number 33 = .ok (.aload_n 0, 1) := by decide +kernel
theorem dX7_number_34 : decode cX7_number 34 = .ok (.aload_n 0, 1) := by decide +kernel
theorem dX7_number_35 : decode cX7_number 35 = .ok (.getfield 87, 3) := by decide +kernel
theorem dX7_number_38 : decode cX7_number 38 = .ok (.invokevirtual 90, 3) := by decide +kernel
theorem dX7_number_41 : decode cX7_number 41 = .ok (.bipush 57, 2) := by decide +kernel
theorem dX7_number_43 : decode cX7_number 43 = .ok (.if_icmp .gt 40, 3) := by decide +kernel
theorem dX7_number_46 : decode cX7_number 46 = .ok (.aload_n 0, 1) := by decide +kernel
theorem dX7_number_47 : decode cX7_number 47 = .ok (.bipush 10, 2) := by decide +kernel
theorem dX7_number_49 : decode cX7_number 49 = .ok (.aload_n 0, 1) := by decide +kernel
theorem dX7_number_50 : decode cX7_number 50 = .ok (.getfield 84, 3) := by decide +kernel
theorem dX7_number_53 : decode cX7_number 53 = .ok (.imul, 1) := by decide +kernel
theorem dX7_number_54 : decode cX7_number 54 = .ok (.aload_n 0, 1) := by decide +kernel
theorem dX7_number_55 : decode cX7_number 55 = .ok (.getfield 7, 3) := by decide +kernel
theorem dX7_number_58 : decode cX7_number 58 = .ok (.aload_n 0, 1) := by decide +kernel
theorem dX7_number_59 : decode cX7_number 59 = .ok (.getfield 87, 3) := by decide +kernel
theorem dX7_number_62 : decode cX7_number 62 = .ok (.iaload, 1) := by decide +kernel
theorem dX7_number_63 : decode cX7_number 63 = .ok (.iadd, 1) := by decide +kernel
theorem dX7_number_64 : decode cX7_number 64 = .ok (.bipush 48, 2) := by decide +kernel
theorem dX7_number_66 : decode cX7_number 66 = .ok (.isub, 1) := by decide +kernel
theorem dX7_number_67 : decode cX7_number 67 = .ok (.putfield 84, 3) := by decide +kernel
theorem dX7_number_70 : decode cX7_number 70 = .ok (.aload_n 0, 1) := by decide +kernel
theorem dX7_number_71 : decode cX7_number 71 = .ok (.dup, 1) := by decide +kernel
theorem dX7_number_72 : decode cX7_number 72 = .ok (.getfield 87, 3) := by decide +kernel
theorem dX7_number_75 : decode cX7_number 75 = .ok (.iconst 1, 1) := by decide +kernel
theorem dX7_number_76 : decode cX7_number 76 = .ok (.iadd, 1) := by decide +kernel
theorem dX7_number_77 : decode cX7_number 77 = .ok (.putfield 87, 3) := by decide +kernel
theorem dX7_number_80 : decode cX7_number 80 = .ok (.goto (-70), 3) := by decide +kernel
theorem dX7_number_83 : decode cX7_number 83 = .ok (.aload_n 0, 1) := by decide +kernel
theorem dX7_number_84 : decode cX7_number 84 = .ok (.getfield 87, 3) := by decide +kernel
theorem dX7_number_87 : decode cX7_number 87 = .ok (.iload_n 1, 1) := by decide +kernel
theorem dX7_number_88 : decode cX7_number 88 = .ok (.if_icmp .le 19, 3) := by decide +kernel
theorem dX7_number_91 : decode cX7_number 91 = .ok (.aload_n 0, 1) := by decide +kernel
theorem dX7_number_92 : decode cX7_number 92 = .ok (.getfield 84, 3) := by decide +kernel
theorem dX7_number_95 : decode cX7_number 95 = .ok (.iload_n 2, 1) := by decide +kernel
theorem dX7_number_96 : decode cX7_number 96 = .ok (.iload_n 3, 1) := by decide +kernel
theorem dX7_number_97 : decode cX7_number 97 = .ok (.invokestatic 94, 3) := by decide +kernel
theorem dX7_number_100 : decode cX7_number 100 = .ok (.ifCond .eq 7, 3) := by decide +kernel
theorem dX7_number_103 : decode cX7_number 103 = .ok (.iconst 1, 1) := by decide +kernel
theorem dX7_number_104 : decode cX7_number 104 = .ok (.goto 4, 3) := by decide +kernel
theorem dX7_number_107 : decode cX7_number 107 = .ok (.iconst 0, 1) := by decide +kernel
theorem dX7_number_108 : decode cX7_number 108 = .ok (.ireturn, 1) := by decide +kernel
theorem dX7_more_0 : decode cX7_more 0 = .ok (.aload_n 0, 1) := by decide +kernel
theorem dX7_more_1 : decode cX7_more 1 = .ok (.aload_n 0, 1) := by decide +kernel
theorem dX7_more_2 : decode cX7_more 2 = .ok (.getfield 87, 3) := by decide +kernel
theorem dX7_more_5 : decode cX7_more 5 = .ok (.invokevirtual 90, 3) := by decide +kernel
theorem dX7_more_8 : decode cX7_more 8 = .ok (.bipush 44, 2) := by decide +kernel
theorem dX7_more_10 : decode cX7_more 10 = .ok (.if_icmp .ne 22, 3) := by decide +kernel
theorem dX7_more_13 : decode cX7_more 13 = .ok (.aload_n 0, 1) := by decide +kernel
theorem dX7_more_14 : decode cX7_more 14 = .ok (.aload_n 0, 1) := by decide +kernel
theorem dX7_more_15 : decode cX7_more 15 = .ok (.getfield 87, 3) := by decide +kernel
theorem dX7_more_18 : decode cX7_more 18 = .ok (.iconst 1, 1) := by decide +kernel
theorem dX7_more_19 : decode cX7_more 19 = .ok (.iadd, 1) := by decide +kernel
theorem dX7_more_20 : decode cX7_more 20 = .ok (.iload_n 1, 1) := by decide +kernel
theorem dX7_more_21 : decode cX7_more 21 = .ok (.iload_n 2, 1) := by decide +kernel
theorem dX7_more_22 : decode cX7_more 22 = .ok (.invokevirtual 98, 3) := by decide +kernel
theorem dX7_more_25 : decode cX7_more 25 = .ok (.ifCond .eq 7, 3) := by decide +kernel
theorem dX7_more_28 : decode cX7_more 28 = .ok (.iconst 1, 1) := by decide +kernel
theorem dX7_more_29 : decode cX7_more 29 = .ok (.goto 4, 3) := by decide +kernel
theorem dX7_more_32 : decode cX7_more 32 = .ok (.iconst 0, 1) := by decide +kernel
theorem dX7_more_33 : decode cX7_more 33 = .ok (.ireturn, 1) := by decide +kernel
theorem dX7_readsLetter_0 : decode cX7_readsLetter 0 = .ok (.aload_n 0, 1) := by decide +kernel
theorem dX7_readsLetter_1 : decode cX7_readsLetter 1 = .ok (.iload_n 1, 1) := by decide +kernel
theorem dX7_readsLetter_2 : decode cX7_readsLetter 2 = .ok (.iconst 0, 1) := by decide +kernel
theorem dX7_readsLetter_3 : decode cX7_readsLetter 3 = .ok (.aload_n 0, 1) := by decide +kernel
theorem dX7_readsLetter_4 : decode cX7_readsLetter 4 = .ok (.getfield 37, 3) := by decide +kernel
theorem dX7_readsLetter_7 : decode cX7_readsLetter 7 = .ok (.iconst 1, 1) := by decide +kernel
theorem dX7_readsLetter_8 : decode cX7_readsLetter 8 = .ok (.isub, 1) := by decide +kernel
theorem dX7_readsLetter_9 : decode cX7_readsLetter 9 = .ok (.invokevirtual 98, 3) := by decide +kernel
theorem dX7_readsLetter_12 : decode cX7_readsLetter 12 = .ok (.ifCond .ne 5, 3) := by decide +kernel
theorem dX7_readsLetter_15 : decode cX7_readsLetter 15 = .ok (.iconst 0, 1) := by decide +kernel
theorem dX7_readsLetter_16 : decode cX7_readsLetter 16 = .ok (.ireturn, 1) := by decide +kernel
theorem dX7_readsLetter_17 : decode cX7_readsLetter 17 = .ok (.aload_n 0, 1) := by decide +kernel
theorem dX7_readsLetter_18 : decode cX7_readsLetter 18 = .ok (.getfield 84, 3) := by decide +kernel
theorem dX7_readsLetter_21 : decode cX7_readsLetter 21 = .ok (.istore_n 2, 1) := by decide +kernel
theorem dX7_readsLetter_22 : decode cX7_readsLetter 22 = .ok (.aload_n 0, 1) := by decide +kernel
theorem dX7_readsLetter_23 : decode cX7_readsLetter 23 = .ok (.iconst 0, 1) := by decide +kernel
theorem dX7_readsLetter_24 : decode cX7_readsLetter 24 = .ok (.aload_n 0, 1) := by decide +kernel
theorem dX7_readsLetter_25 : decode cX7_readsLetter 25 = .ok (.getfield 37, 3) := by decide +kernel
theorem dX7_readsLetter_28 : decode cX7_readsLetter 28 = .ok (.iconst 1, 1) := by decide +kernel
theorem dX7_readsLetter_29 : decode cX7_readsLetter 29 = .ok (.isub, 1) := by decide +kernel
theorem dX7_readsLetter_30 : decode cX7_readsLetter 30 = .ok (.invokevirtual 101, 3) := by decide +kernel
theorem dX7_readsLetter_33 : decode cX7_readsLetter 33 = .ok (.ifCond .eq 23, 3) := by decide +kernel
theorem dX7_readsLetter_36 : decode cX7_readsLetter 36 = .ok (.aload_n 0, 1) := by decide +kernel
theorem dX7_readsLetter_37 : decode cX7_readsLetter 37 = .ok (.getfield 13, 3) := by decide +kernel
theorem dX7_readsLetter_40 : decode cX7_readsLetter 40 = .ok (.sipush 1300, 3) := by decide +kernel
theorem dX7_readsLetter_43 : decode cX7_readsLetter 43 = .ok (.iload_n 2, 1) := by decide +kernel
theorem dX7_readsLetter_44 : decode cX7_readsLetter 44 = .ok (.iadd, 1) := by decide +kernel
theorem dX7_readsLetter_45 : decode cX7_readsLetter 45 = .ok (.iaload, 1) := by decide +kernel
theorem dX7_readsLetter_46 : decode cX7_readsLetter 46 = .ok (.aload_n 0, 1) := by decide +kernel
theorem dX7_readsLetter_47 : decode cX7_readsLetter 47 = .ok (.getfield 84, 3) := by decide +kernel
theorem dX7_readsLetter_50 : decode cX7_readsLetter 50 = .ok (.invokestatic 105, 3) := by decide +kernel
theorem dX7_readsLetter_53 : decode cX7_readsLetter 53 = .ok (.ifCond .ne 5, 3) := by decide +kernel
theorem dX7_readsLetter_56 : decode cX7_readsLetter 56 = .ok (.iconst 0, 1) := by decide +kernel
theorem dX7_readsLetter_57 : decode cX7_readsLetter 57 = .ok (.ireturn, 1) := by decide +kernel
theorem dX7_readsLetter_58 : decode cX7_readsLetter 58 = .ok (.aload_n 0, 1) := by decide +kernel
theorem dX7_readsLetter_59 : decode cX7_readsLetter 59 = .ok (.getfield 84, 3) := by decide +kernel
theorem dX7_readsLetter_62 : decode cX7_readsLetter 62 = .ok (.istore_n 3, 1) := by decide +kernel
theorem dX7_readsLetter_63 : decode cX7_readsLetter 63 = .ok (.aload_n 0, 1) := by decide +kernel
theorem dX7_readsLetter_64 : decode cX7_readsLetter 64 = .ok (.getfield 13, 3) := by decide +kernel
theorem dX7_readsLetter_67 : decode cX7_readsLetter 67 = .ok (.iconst 2, 1) := by decide +kernel
theorem dX7_readsLetter_68 : decode cX7_readsLetter 68 = .ok (.iload_n 2, 1) := by decide +kernel
theorem dX7_readsLetter_69 : decode cX7_readsLetter 69 = .ok (.invokestatic 52, 3) := by decide +kernel
theorem dX7_readsLetter_72 : decode cX7_readsLetter 72 = .ok (.bipush 8, 2) := by decide +kernel
theorem dX7_readsLetter_74 : decode cX7_readsLetter 74 = .ok (.iadd, 1) := by decide +kernel
theorem dX7_readsLetter_75 : decode cX7_readsLetter 75 = .ok (.iaload, 1) := by decide +kernel
theorem dX7_readsLetter_76 : decode cX7_readsLetter 76 = .ok (.bipush 6, 2) := by decide +kernel
theorem dX7_readsLetter_78 : decode cX7_readsLetter 78 = .ok (.if_icmp .ge 17, 3) := by decide +kernel
theorem dX7_readsLetter_81 : decode cX7_readsLetter 81 = .ok (.aload_n 0, 1) := by decide +kernel
theorem dX7_readsLetter_82 : decode cX7_readsLetter 82 = .ok (.iconst 1, 1) := by decide +kernel
theorem dX7_readsLetter_83 : decode cX7_readsLetter 83 = .ok (.bipush 9, 2) := by decide +kernel
theorem dX7_readsLetter_85 : decode cX7_readsLetter 85 = .ok (.invokevirtual 101, 3) := by decide +kernel
theorem dX7_readsLetter_88 : decode cX7_readsLetter 88 = .ok (.ifCond .eq 7, 3) := by decide +kernel
theorem dX7_readsLetter_91 : decode cX7_readsLetter 91 = .ok (.iconst 1, 1) := by decide +kernel
theorem dX7_readsLetter_92 : decode cX7_readsLetter 92 = .ok (.goto 4, 3) := by decide +kernel
theorem dX7_readsLetter_95 : decode cX7_readsLetter 95 = .ok (.iconst 0, 1) := by decide +kernel
theorem dX7_readsLetter_96 : decode cX7_readsLetter 96 = .ok (.istore 4, 2) := by decide +kernel
theorem dX7_readsLetter_98 : decode cX7_readsLetter 98 = .ok (.iload 4, 2) := by decide +kernel
theorem dX7_readsLetter_100 : decode cX7_readsLetter 100 = .ok (.ifCond .eq 14, 3) := by decide +kernel
theorem dX7_readsLetter_103 : decode cX7_readsLetter 103 = .ok (.aload_n 0, 1) := by decide +kernel
theorem dX7_readsLetter_104 : decode cX7_readsLetter 104 = .ok (.iconst 2, 1) := by decide +kernel
theorem dX7_readsLetter_105 : decode cX7_readsLetter 105 = .ok (.iload_n 2, 1) := by decide +kernel
theorem dX7_readsLetter_106 : decode cX7_readsLetter 106 = .ok (.iload_n 3, 1) := by decide +kernel
theorem dX7_readsLetter_107 : decode cX7_readsLetter 107 = .ok (.aload_n 0, 1) := by decide +kernel
theorem dX7_readsLetter_108 : decode cX7_readsLetter 108 = .ok (.getfield 84, 3) := by decide +kernel
theorem dX7_readsLetter_111 : decode cX7_readsLetter 111 = .ok (.invokevirtual 45, 3) := by decide +kernel
theorem dX7_readsLetter_114 : decode cX7_readsLetter 114 = .ok (.iload 4, 2) := by decide +kernel
theorem dX7_readsLetter_116 : decode cX7_readsLetter 116 = .ok (.ireturn, 1) := by decide +kernel
theorem dX7_readsPair_0 : decode cX7_readsPair 0 = .ok (.aload_n 0, 1) := by decide +kernel
theorem dX7_readsPair_1 : decode cX7_readsPair 1 = .ok (.iload_n 1, 1) := by decide +kernel
theorem dX7_readsPair_2 : decode cX7_readsPair 2 = .ok (.iconst 0, 1) := by decide +kernel
theorem dX7_readsPair_3 : decode cX7_readsPair 3 = .ok (.aload_n 0, 1) := by decide +kernel
theorem dX7_readsPair_4 : decode cX7_readsPair 4 = .ok (.getfield 37, 3) := by decide +kernel
theorem dX7_readsPair_7 : decode cX7_readsPair 7 = .ok (.iconst 1, 1) := by decide +kernel
theorem dX7_readsPair_8 : decode cX7_readsPair 8 = .ok (.isub, 1) := by decide +kernel
theorem dX7_readsPair_9 : decode cX7_readsPair 9 = .ok (.invokevirtual 98, 3) := by decide +kernel
theorem dX7_readsPair_12 : decode cX7_readsPair 12 = .ok (.ifCond .ne 5, 3) := by decide +kernel
theorem dX7_readsPair_15 : decode cX7_readsPair 15 = .ok (.iconst 0, 1) := by decide +kernel
theorem dX7_readsPair_16 : decode cX7_readsPair 16 = .ok (.ireturn, 1) := by decide +kernel
theorem dX7_readsPair_17 : decode cX7_readsPair 17 = .ok (.aload_n 0, 1) := by decide +kernel
theorem dX7_readsPair_18 : decode cX7_readsPair 18 = .ok (.getfield 84, 3) := by decide +kernel
theorem dX7_readsPair_21 : decode cX7_readsPair 21 = .ok (.istore_n 2, 1) := by decide +kernel
theorem dX7_readsPair_22 : decode cX7_readsPair 22 = .ok (.aload_n 0, 1) := by decide +kernel
theorem dX7_readsPair_23 : decode cX7_readsPair 23 = .ok (.iconst 0, 1) := by decide +kernel
theorem dX7_readsPair_24 : decode cX7_readsPair 24 = .ok (.aload_n 0, 1) := by decide +kernel
theorem dX7_readsPair_25 : decode cX7_readsPair 25 = .ok (.getfield 37, 3) := by decide +kernel
theorem dX7_readsPair_28 : decode cX7_readsPair 28 = .ok (.iconst 1, 1) := by decide +kernel
theorem dX7_readsPair_29 : decode cX7_readsPair 29 = .ok (.isub, 1) := by decide +kernel
theorem dX7_readsPair_30 : decode cX7_readsPair 30 = .ok (.invokevirtual 101, 3) := by decide +kernel
theorem dX7_readsPair_33 : decode cX7_readsPair 33 = .ok (.ifCond .eq 15, 3) := by decide +kernel
theorem dX7_readsPair_36 : decode cX7_readsPair 36 = .ok (.aload_n 0, 1) := by decide +kernel
theorem dX7_readsPair_37 : decode cX7_readsPair 37 = .ok (.getfield 84, 3) := by decide +kernel
theorem dX7_readsPair_40 : decode cX7_readsPair 40 = .ok (.iload_n 2, 1) := by decide +kernel
theorem dX7_readsPair_41 : decode cX7_readsPair 41 = .ok (.if_icmp .eq 7, 3) := by decide +kernel
theorem dX7_readsPair_44 : decode cX7_readsPair 44 = .ok (.iconst 1, 1) := by decide +kernel
theorem dX7_readsPair_45 : decode cX7_readsPair 45 = .ok (.goto 4, 3) := by decide +kernel
theorem dX7_readsPair_48 : decode cX7_readsPair 48 = .ok (.iconst 0, 1) := by decide +kernel
theorem dX7_readsPair_49 : decode cX7_readsPair 49 = .ok (.istore_n 3, 1) := by decide +kernel
theorem dX7_readsPair_50 : decode cX7_readsPair 50 = .ok (.iload_n 3, 1) := by decide +kernel
theorem dX7_readsPair_51 : decode cX7_readsPair 51 = .ok (.ifCond .eq 13, 3) := by decide +kernel
theorem dX7_readsPair_54 : decode cX7_readsPair 54 = .ok (.aload_n 0, 1) := by decide +kernel
theorem dX7_readsPair_55 : decode cX7_readsPair 55 = .ok (.iconst 2, 1) := by decide +kernel
theorem dX7_readsPair_56 : decode cX7_readsPair 56 = .ok (.iload_n 2, 1) := by decide +kernel
theorem dX7_readsPair_57 : decode cX7_readsPair 57 = .ok (.aload_n 0, 1) := by decide +kernel
theorem dX7_readsPair_58 : decode cX7_readsPair 58 = .ok (.getfield 84, 3) := by decide +kernel
theorem dX7_readsPair_61 : decode cX7_readsPair 61 = .ok (.invokevirtual 41, 3) := by decide +kernel
theorem dX7_readsPair_64 : decode cX7_readsPair 64 = .ok (.iload_n 3, 1) := by decide +kernel
theorem dX7_readsPair_65 : decode cX7_readsPair 65 = .ok (.ireturn, 1) := by decide +kernel
theorem dX7_readsRules_0 : decode cX7_readsRules 0 = .ok (.aload_n 0, 1) := by decide +kernel
theorem dX7_readsRules_1 : decode cX7_readsRules 1 = .ok (.iload_n 1, 1) := by decide +kernel
theorem dX7_readsRules_2 : decode cX7_readsRules 2 = .ok (.iconst 1, 1) := by decide +kernel
theorem dX7_readsRules_3 : decode cX7_readsRules 3 = .ok (.iload_n 2, 1) := by decide +kernel
theorem dX7_readsRules_4 : decode cX7_readsRules 4 = .ok (.ifCond .ne 8, 3) := by decide +kernel
theorem dX7_readsRules_7 : decode cX7_readsRules 7 = .ok (.bipush 16, 2) := by decide +kernel
theorem dX7_readsRules_9 : decode cX7_readsRules 9 = .ok (.goto 5, 3) := by decide +kernel
theorem dX7_readsRules_12 : decode cX7_readsRules 12 = .ok (.bipush 10, 2) := by decide +kernel
theorem dX7_readsRules_14 : decode cX7_readsRules 14 = .ok (.invokevirtual 98, 3) := by decide +kernel
theorem dX7_readsRules_17 : decode cX7_readsRules 17 = .ok (.ifCond .ne 5, 3) := by decide +kernel
theorem dX7_readsRules_20 : decode cX7_readsRules 20 = .ok (.iconst 0, 1) := by decide +kernel
theorem dX7_readsRules_21 : decode cX7_readsRules 21 = .ok (.ireturn, 1) := by decide +kernel
theorem dX7_readsRules_22 : decode cX7_readsRules 22 = .ok (.aload_n 0, 1) := by decide +kernel
theorem dX7_readsRules_23 : decode cX7_readsRules 23 = .ok (.getfield 19, 3) := by decide +kernel
theorem dX7_readsRules_26 : decode cX7_readsRules 26 = .ok (.iload_n 2, 1) := by decide +kernel
theorem dX7_readsRules_27 : decode cX7_readsRules 27 = .ok (.aload_n 0, 1) := by decide +kernel
theorem dX7_readsRules_28 : decode cX7_readsRules 28 = .ok (.getfield 84, 3) := by decide +kernel
theorem dX7_readsRules_31 : decode cX7_readsRules 31 = .ok (.iastore, 1) := by decide +kernel
theorem dX7_readsRules_32 : decode cX7_readsRules 32 = .ok (.aload_n 0, 1) := by decide +kernel
theorem dX7_readsRules_33 : decode cX7_readsRules 33 = .ok (.iload_n 2, 1) := by decide +kernel
theorem dX7_readsRules_34 : decode cX7_readsRules 34 = .ok (.ifCond .ne 10, 3) := by decide +kernel
theorem dX7_readsRules_37 : decode cX7_readsRules 37 = .ok (.aload_n 0, 1) := by decide +kernel
theorem dX7_readsRules_38 : decode cX7_readsRules 38 = .ok (.getfield 84, 3) := by decide +kernel
theorem dX7_readsRules_41 : decode cX7_readsRules 41 = .ok (.goto 4, 3) := by decide +kernel
theorem dX7_readsRules_44 : decode cX7_readsRules 44 = .ok (.iconst 1, 1) := by decide +kernel
theorem dX7_readsRules_45 : decode cX7_readsRules 45 = .ok (.iload_n 3, 1) := by decide +kernel
theorem dX7_readsRules_46 : decode cX7_readsRules 46 = .ok (.invokevirtual 101, 3) := by decide +kernel
theorem dX7_readsRules_49 : decode cX7_readsRules 49 = .ok (.istore 4, 2) := by decide +kernel
theorem dX7_readsRules_51 : decode cX7_readsRules 51 = .ok (.aload_n 0, 1) := by decide +kernel
theorem dX7_readsRules_52 : decode cX7_readsRules 52 = .ok (.getfield 19, 3) := by decide +kernel
theorem dX7_readsRules_55 : decode cX7_readsRules 55 = .ok (.iload_n 2, 1) := by decide +kernel
theorem dX7_readsRules_56 : decode cX7_readsRules 56 = .ok (.iconst 1, 1) := by decide +kernel
theorem dX7_readsRules_57 : decode cX7_readsRules 57 = .ok (.iadd, 1) := by decide +kernel
theorem dX7_readsRules_58 : decode cX7_readsRules 58 = .ok (.aload_n 0, 1) := by decide +kernel
theorem dX7_readsRules_59 : decode cX7_readsRules 59 = .ok (.getfield 84, 3) := by decide +kernel
theorem dX7_readsRules_62 : decode cX7_readsRules 62 = .ok (.iastore, 1) := by decide +kernel
theorem dX7_readsRules_63 : decode cX7_readsRules 63 = .ok (.iload 4, 2) := by decide +kernel
theorem dX7_readsRules_65 : decode cX7_readsRules 65 = .ok (.ireturn, 1) := by decide +kernel
theorem dX7_readsItem_0 : decode cX7_readsItem 0 = .ok (.iload_n 3, 1) := by decide +kernel
theorem dX7_readsItem_1 : decode cX7_readsItem 1 = .ok (.iload_n 1, 1) := by decide +kernel
theorem dX7_readsItem_2 : decode cX7_readsItem 2 = .ok (.bipush 110, 2) := by decide +kernel
theorem dX7_readsItem_4 : decode cX7_readsItem 4 = .ok (.if_icmp .ne 7, 3) := by decide +kernel
theorem dX7_readsItem_7 : decode cX7_readsItem 7 = .ok (.iconst 1, 1) := by decide +kernel
theorem dX7_readsItem_8 : decode cX7_readsItem 8 = .ok (.goto 4, 3) := by decide +kernel
theorem dX7_readsItem_11 : decode cX7_readsItem 11 = .ok (.iconst 0, 1) := by decide +kernel
theorem dX7_readsItem_12 : decode cX7_readsItem 12 = .ok (.if_icmp .eq 5, 3) := by decide +kernel
theorem dX7_readsItem_15 : decode cX7_readsItem 15 = .ok (.iconst 0, 1) := by decide +kernel
theorem dX7_readsItem_16 : decode cX7_readsItem 16 = .ok (.ireturn, 1) := by decide +kernel
theorem dX7_readsItem_17 : decode cX7_readsItem 17 = .ok (.iload_n 1, 1) := by decide +kernel
theorem dX7_readsItem_18 : decode cX7_readsItem 18 = .ok (.tableswitch 176 104 122 #[120, 176, 176, 176, 126, 176, 90, 176, 176, 176, 176, 176, 141, 176, 176, 132, 176, 176, 150], 90) := by decide +kernel
theorem dX7_readsItem_108 : decode cX7_readsItem 108 = .ok (.aload_n 0, 1) := by decide +kernel
theorem dX7_readsItem_109 : decode cX7_readsItem 109 = .ok (.iload_n 2, 1) := by decide +kernel
theorem dX7_readsItem_110 : decode cX7_readsItem 110 = .ok (.iconst 2, 1) := by decide +kernel
theorem dX7_readsItem_111 : decode cX7_readsItem 111 = .ok (.bipush 6, 2) := by decide +kernel
theorem dX7_readsItem_113 : decode cX7_readsItem 113 = .ok (.invokevirtual 98, 3) := by decide +kernel
theorem dX7_readsItem_116 : decode cX7_readsItem 116 = .ok (.istore 4, 2) := by decide +kernel
theorem dX7_readsItem_118 : decode cX7_readsItem 118 = .ok (.aload_n 0, 1) := by decide +kernel
theorem dX7_readsItem_119 : decode cX7_readsItem 119 = .ok (.iload 4, 2) := by decide +kernel
theorem dX7_readsItem_121 : decode cX7_readsItem 121 = .ok (.ifCond .eq 10, 3) := by decide +kernel
theorem dX7_readsItem_124 : decode cX7_readsItem 124 = .ok (.aload_n 0, 1) := by decide +kernel
theorem dX7_readsItem_125 : decode cX7_readsItem 125 = .ok (.getfield 84, 3) := by decide +kernel
theorem dX7_readsItem_128 : decode cX7_readsItem 128 = .ok (.goto 4, 3) := by decide +kernel
theorem dX7_readsItem_131 : decode cX7_readsItem 131 = .ok (.iconst 0, 1) := by decide +kernel
theorem dX7_readsItem_132 : decode cX7_readsItem 132 = .ok (.putfield 37, 3) := by decide +kernel
theorem dX7_readsItem_135 : decode cX7_readsItem 135 = .ok (.iload 4, 2) := by decide +kernel
theorem dX7_readsItem_137 : decode cX7_readsItem 137 = .ok (.ireturn, 1) := by decide +kernel
theorem dX7_readsItem_138 : decode cX7_readsItem 138 = .ok (.aload_n 0, 1) := by decide +kernel
theorem dX7_readsItem_139 : decode cX7_readsItem 139 = .ok (.iload_n 2, 1) := by decide +kernel
theorem dX7_readsItem_140 : decode cX7_readsItem 140 = .ok (.invokevirtual 108, 3) := by decide +kernel
theorem dX7_readsItem_143 : decode cX7_readsItem 143 = .ok (.ireturn, 1) := by decide +kernel
theorem dX7_readsItem_144 : decode cX7_readsItem 144 = .ok (.aload_n 0, 1) := by decide +kernel
theorem dX7_readsItem_145 : decode cX7_readsItem 145 = .ok (.iload_n 2, 1) := by decide +kernel
theorem dX7_readsItem_146 : decode cX7_readsItem 146 = .ok (.invokevirtual 112, 3) := by decide +kernel
theorem dX7_readsItem_149 : decode cX7_readsItem 149 = .ok (.ireturn, 1) := by decide +kernel
theorem dX7_readsItem_150 : decode cX7_readsItem 150 = .ok (.aload_n 0, 1) := by decide +kernel
theorem dX7_readsItem_151 : decode cX7_readsItem 151 = .ok (.iload_n 2, 1) := by decide +kernel
theorem dX7_readsItem_152 : decode cX7_readsItem 152 = .ok (.iconst 0, 1) := by decide +kernel
theorem dX7_readsItem_153 : decode cX7_readsItem 153 = .ok (.bipush 64, 2) := by decide +kernel
theorem dX7_readsItem_155 : decode cX7_readsItem 155 = .ok (.invokevirtual 115, 3) := by decide +kernel
theorem dX7_readsItem_158 : decode cX7_readsItem 158 = .ok (.ireturn, 1) := by decide +kernel
theorem dX7_readsItem_159 : decode cX7_readsItem 159 = .ok (.aload_n 0, 1) := by decide +kernel
theorem dX7_readsItem_160 : decode cX7_readsItem 160 = .ok (.iload_n 2, 1) := by decide +kernel
theorem dX7_readsItem_161 : decode cX7_readsItem 161 = .ok (.iconst 2, 1) := by decide +kernel
theorem dX7_readsItem_162 : decode cX7_readsItem 162 = .ok (.bipush 7, 2) := by decide +kernel
theorem dX7_readsItem_164 : decode cX7_readsItem 164 = .ok (.invokevirtual 115, 3) := by decide +kernel
theorem dX7_readsItem_167 : decode cX7_readsItem 167 = .ok (.ireturn, 1) := by decide +kernel
theorem dX7_readsItem_168 : decode cX7_readsItem 168 = .ok (.aload_n 0, 1) := by decide +kernel
theorem dX7_readsItem_169 : decode cX7_readsItem 169 = .ok (.iload_n 2, 1) := by decide +kernel
theorem dX7_readsItem_170 : decode cX7_readsItem 170 = .ok (.iconst 0, 1) := by decide +kernel
theorem dX7_readsItem_171 : decode cX7_readsItem 171 = .ok (.sipush 9999, 3) := by decide +kernel
theorem dX7_readsItem_174 : decode cX7_readsItem 174 = .ok (.invokevirtual 98, 3) := by decide +kernel
theorem dX7_readsItem_177 : decode cX7_readsItem 177 = .ok (.istore 5, 2) := by decide +kernel
theorem dX7_readsItem_179 : decode cX7_readsItem 179 = .ok (.aload_n 0, 1) := by decide +kernel
theorem dX7_readsItem_180 : decode cX7_readsItem 180 = .ok (.getfield 13, 3) := by decide +kernel
theorem dX7_readsItem_183 : decode cX7_readsItem 183 = .ok (.sipush 1308, 3) := by decide +kernel
theorem dX7_readsItem_186 : decode cX7_readsItem 186 = .ok (.aload_n 0, 1) := by decide +kernel
theorem dX7_readsItem_187 : decode cX7_readsItem 187 = .ok (.getfield 84, 3) := by decide +kernel
theorem dX7_readsItem_190 : decode cX7_readsItem 190 = .ok (.iastore, 1) := by decide +kernel
theorem dX7_readsItem_191 : decode cX7_readsItem 191 = .ok (.iload 5, 2) := by decide +kernel
theorem dX7_readsItem_193 : decode cX7_readsItem 193 = .ok (.ireturn, 1) := by decide +kernel
theorem dX7_readsItem_194 : decode cX7_readsItem 194 = .ok (.iconst 0, 1) := by decide +kernel
theorem dX7_readsItem_195 : decode cX7_readsItem 195 = .ok (.ireturn, 1) := by decide +kernel
theorem dX7_reads_0 : decode cX7_reads 0 = .ok (.aload_n 0, 1) := by decide +kernel
theorem dX7_reads_1 : decode cX7_reads 1 = .ok (.invokevirtual 34, 3) := by decide +kernel
theorem dX7_reads_4 : decode cX7_reads 4 = .ok (.iconst 0, 1) := by decide +kernel
theorem dX7_reads_5 : decode cX7_reads 5 = .ok (.istore_n 1, 1) := by decide +kernel
theorem dX7_reads_6 : decode cX7_reads 6 = .ok (.iload_n 1, 1) := by decide +kernel
theorem dX7_reads_7 : decode cX7_reads 7 = .ok (.aload_n 0, 1) := by decide +kernel
theorem dX7_reads_8 : decode cX7_reads 8 = .ok (.getfield 81, 3) := by decide +kernel
theorem dX7_reads_11 : decode cX7_reads 11 = .ok (.if_icmp .ge 53, 3) := by decide +kernel
theorem dX7_reads_14 : decode cX7_reads 14 = .ok (.aload_n 0, 1) := by decide +kernel
theorem dX7_reads_15 : decode cX7_reads 15 = .ok (.aload_n 0, 1) := by decide +kernel
theorem dX7_reads_16 : decode cX7_reads 16 = .ok (.getfield 7, 3) := by decide +kernel
theorem dX7_reads_19 : decode cX7_reads 19 = .ok (.iload_n 1, 1) := by decide +kernel
theorem dX7_reads_20 : decode cX7_reads 20 = .ok (.iaload, 1) := by decide +kernel
theorem dX7_reads_21 : decode cX7_reads 21 = .ok (.iload_n 1, 1) := by decide +kernel
theorem dX7_reads_22 : decode cX7_reads 22 = .ok (.iconst 1, 1) := by decide +kernel
theorem dX7_reads_23 : decode cX7_reads 23 = .ok (.iadd, 1) := by decide +kernel
theorem dX7_reads_24 : decode cX7_reads 24 = .ok (.iload_n 1, 1) := by decide +kernel
theorem dX7_reads_25 : decode cX7_reads 25 = .ok (.ifCond .ne 7, 3) := by decide +kernel
theorem dX7_reads_28 : decode cX7_reads 28 = .ok (.iconst 1, 1) := by decide +kernel
theorem dX7_reads_29 : decode cX7_reads 29 = .ok (.goto 4, 3) := by decide +kernel
theorem dX7_reads_32 : decode cX7_reads 32 = .ok (.iconst 0, 1) := by decide +kernel
theorem dX7_reads_33 : decode cX7_reads 33 = .ok (.invokevirtual 118, 3) := by decide +kernel
theorem dX7_reads_36 : decode cX7_reads 36 = .ok (.ifCond .eq 16, 3) := by decide +kernel
theorem dX7_reads_39 : decode cX7_reads 39 = .ok (.aload_n 0, 1) := by decide +kernel
theorem dX7_reads_40 : decode cX7_reads 40 = .ok (.aload_n 0, 1) := by decide +kernel
theorem dX7_reads_41 : decode cX7_reads 41 = .ok (.getfield 87, 3) := by decide +kernel
theorem dX7_reads_44 : decode cX7_reads 44 = .ok (.invokevirtual 90, 3) := by decide +kernel
theorem dX7_reads_47 : decode cX7_reads 47 = .ok (.bipush 59, 2) := by decide +kernel
theorem dX7_reads_49 : decode cX7_reads 49 = .ok (.if_icmp .eq 5, 3) := by decide +kernel
theorem dX7_reads_52 : decode cX7_reads 52 = .ok (.iload_n 1, 1) := by decide +kernel
theorem dX7_reads_53 : decode cX7_reads 53 = .ok (.ireturn, 1) := by decide +kernel
theorem dX7_reads_54 : decode cX7_reads 54 = .ok (.aload_n 0, 1) := by decide +kernel
theorem dX7_reads_55 : decode cX7_reads 55 = .ok (.getfield 87, 3) := by decide +kernel
theorem dX7_reads_58 : decode cX7_reads 58 = .ok (.iconst 1, 1) := by decide +kernel
theorem dX7_reads_59 : decode cX7_reads 59 = .ok (.iadd, 1) := by decide +kernel
theorem dX7_reads_60 : decode cX7_reads 60 = .ok (.istore_n 1, 1) := by decide +kernel
theorem dX7_reads_61 : decode cX7_reads 61 = .ok (.goto (-55), 3) := by decide +kernel
theorem dX7_reads_64 : decode cX7_reads 64 = .ok (.bipush (-4), 2) := by decide +kernel
theorem dX7_reads_66 : decode cX7_reads 66 = .ok (.ireturn, 1) := by decide +kernel
theorem dX7_write_0 : decode cX7_write 0 = .ok (.iload_n 1, 1) := by decide +kernel
theorem dX7_write_1 : decode cX7_write 1 = .ok (.bipush 32, 2) := by decide +kernel
theorem dX7_write_3 : decode cX7_write 3 = .ok (.if_icmp .lt 9, 3) := by decide +kernel
theorem dX7_write_6 : decode cX7_write 6 = .ok (.iload_n 1, 1) := by decide +kernel
theorem dX7_write_7 : decode cX7_write 7 = .ok (.bipush 126, 2) := by decide +kernel
theorem dX7_write_9 : decode cX7_write 9 = .ok (.if_icmp .le 5, 3) := by decide +kernel
theorem dX7_write_12 : decode cX7_write 12 = .ok (.iconst (-1), 1) := by decide +kernel
theorem dX7_write_13 : decode cX7_write 13 = .ok (.ireturn, 1) := by decide +kernel
theorem dX7_write_14 : decode cX7_write 14 = .ok (.aload_n 0, 1) := by decide +kernel
theorem dX7_write_15 : decode cX7_write 15 = .ok (.getfield 81, 3) := by decide +kernel
theorem dX7_write_18 : decode cX7_write 18 = .ok (.sipush 200, 3) := by decide +kernel
theorem dX7_write_21 : decode cX7_write 21 = .ok (.if_icmp .ne 6, 3) := by decide +kernel
theorem dX7_write_24 : decode cX7_write 24 = .ok (.bipush (-3), 2) := by decide +kernel
theorem dX7_write_26 : decode cX7_write 26 = .ok (.ireturn, 1) := by decide +kernel
theorem dX7_write_27 : decode cX7_write 27 = .ok (.aload_n 0, 1) := by decide +kernel
theorem dX7_write_28 : decode cX7_write 28 = .ok (.getfield 7, 3) := by decide +kernel
theorem dX7_write_31 : decode cX7_write 31 = .ok (.aload_n 0, 1) := by decide +kernel
theorem dX7_write_32 : decode cX7_write 32 = .ok (.getfield 81, 3) := by decide +kernel
theorem dX7_write_35 : decode cX7_write 35 = .ok (.iload_n 1, 1) := by decide +kernel
theorem dX7_write_36 : decode cX7_write 36 = .ok (.iastore, 1) := by decide +kernel
theorem dX7_write_37 : decode cX7_write 37 = .ok (.aload_n 0, 1) := by decide +kernel
theorem dX7_write_38 : decode cX7_write 38 = .ok (.dup, 1) := by decide +kernel
theorem dX7_write_39 : decode cX7_write 39 = .ok (.getfield 81, 3) := by decide +kernel
theorem dX7_write_42 : decode cX7_write 42 = .ok (.iconst 1, 1) := by decide +kernel
theorem dX7_write_43 : decode cX7_write 43 = .ok (.iadd, 1) := by decide +kernel
theorem dX7_write_44 : decode cX7_write 44 = .ok (.putfield 81, 3) := by decide +kernel
theorem dX7_write_47 : decode cX7_write 47 = .ok (.aload_n 0, 1) := by decide +kernel
theorem dX7_write_48 : decode cX7_write 48 = .ok (.getfield 81, 3) := by decide +kernel
theorem dX7_write_51 : decode cX7_write 51 = .ok (.ireturn, 1) := by decide +kernel
theorem dX7_wipe_0 : decode cX7_wipe 0 = .ok (.aload_n 0, 1) := by decide +kernel
theorem dX7_wipe_1 : decode cX7_wipe 1 = .ok (.getfield 81, 3) := by decide +kernel
theorem dX7_wipe_4 : decode cX7_wipe 4 = .ok (.istore_n 1, 1) := by decide +kernel
theorem dX7_wipe_5 : decode cX7_wipe 5 = .ok (.aload_n 0, 1) := by decide +kernel
theorem dX7_wipe_6 : decode cX7_wipe 6 = .ok (.iconst 0, 1) := by decide +kernel
theorem dX7_wipe_7 : decode cX7_wipe 7 = .ok (.putfield 81, 3) := by decide +kernel
theorem dX7_wipe_10 : decode cX7_wipe 10 = .ok (.iload_n 1, 1) := by decide +kernel
theorem dX7_wipe_11 : decode cX7_wipe 11 = .ok (.ireturn, 1) := by decide +kernel
theorem dX7_fault_0 : decode cX7_fault 0 = .ok (.aload_n 0, 1) := by decide +kernel
theorem dX7_fault_1 : decode cX7_fault 1 = .ok (.invokevirtual 122, 3) := by decide +kernel
theorem dX7_fault_4 : decode cX7_fault 4 = .ok (.ireturn, 1) := by decide +kernel
theorem dX7_lay_0 : decode cX7_lay 0 = .ok (.aload_n 0, 1) := by decide +kernel
theorem dX7_lay_1 : decode cX7_lay 1 = .ok (.invokevirtual 122, 3) := by decide +kernel
theorem dX7_lay_4 : decode cX7_lay 4 = .ok (.bipush (-4), 2) := by decide +kernel
theorem dX7_lay_6 : decode cX7_lay 6 = .ok (.if_icmp .ne 10, 3) := by decide +kernel
theorem dX7_lay_9 : decode cX7_lay 9 = .ok (.aload_n 0, 1) := by decide +kernel
theorem dX7_lay_10 : decode cX7_lay 10 = .ok (.getfield 37, 3) := by decide +kernel
theorem dX7_lay_13 : decode cX7_lay 13 = .ok (.ifCond .ne 6, 3) := by decide +kernel
theorem dX7_lay_16 : decode cX7_lay 16 = .ok (.bipush (-2), 2) := by decide +kernel
theorem dX7_lay_18 : decode cX7_lay 18 = .ok (.ireturn, 1) := by decide +kernel
theorem dX7_lay_19 : decode cX7_lay 19 = .ok (.aload_n 0, 1) := by decide +kernel
theorem dX7_lay_20 : decode cX7_lay 20 = .ok (.invokevirtual 49, 3) := by decide +kernel
theorem dX7_lay_23 : decode cX7_lay 23 = .ok (.aload_n 0, 1) := by decide +kernel
theorem dX7_lay_24 : decode cX7_lay 24 = .ok (.getfield 56, 3) := by decide +kernel
theorem dX7_lay_27 : decode cX7_lay 27 = .ok (.ireturn, 1) := by decide +kernel
theorem dX7_drawn_0 : decode cX7_drawn 0 = .ok (.ldc2_w 126, 3) := by decide +kernel
theorem dX7_drawn_3 : decode cX7_drawn 3 = .ok (.aload_n 0, 1) := by decide +kernel
theorem dX7_drawn_4 : decode cX7_drawn 4 = .ok (.getfield 13, 3) := by decide +kernel
theorem dX7_drawn_7 : decode cX7_drawn 7 = .ok (.sipush 440, 3) := by decide +kernel
theorem dX7_drawn_10 : decode cX7_drawn 10 = .ok (.iload_n 1, 1) := by decide +kernel
theorem dX7_drawn_11 : decode cX7_drawn 11 = .ok (.imul, 1) := by decide +kernel
theorem dX7_drawn_12 : decode cX7_drawn 12 = .ok (.sipush 428, 3) := by decide +kernel
theorem dX7_drawn_15 : decode cX7_drawn 15 = .ok (.iadd, 1) := by decide +kernel
theorem dX7_drawn_16 : decode cX7_drawn 16 = .ok (.iaload, 1) := by decide +kernel
theorem dX7_drawn_17 : decode cX7_drawn 17 = .ok (.i2l, 1) := by decide +kernel
theorem dX7_drawn_18 : decode cX7_drawn 18 = .ok (.lmul, 1) := by decide +kernel
theorem dX7_drawn_19 : decode cX7_drawn 19 = .ok (.ldc2_w 128, 3) := by decide +kernel
theorem dX7_drawn_22 : decode cX7_drawn 22 = .ok (.iload_n 2, 1) := by decide +kernel
theorem dX7_drawn_23 : decode cX7_drawn 23 = .ok (.i2l, 1) := by decide +kernel
theorem dX7_drawn_24 : decode cX7_drawn 24 = .ok (.lmul, 1) := by decide +kernel
theorem dX7_drawn_25 : decode cX7_drawn 25 = .ok (.ladd, 1) := by decide +kernel
theorem dX7_drawn_26 : decode cX7_drawn 26 = .ok (.ldc2_w 130, 3) := by decide +kernel
theorem dX7_drawn_29 : decode cX7_drawn 29 = .ok (.iload_n 3, 1) := by decide +kernel
theorem dX7_drawn_30 : decode cX7_drawn 30 = .ok (.i2l, 1) := by decide +kernel
theorem dX7_drawn_31 : decode cX7_drawn 31 = .ok (.lmul, 1) := by decide +kernel
theorem dX7_drawn_32 : decode cX7_drawn 32 = .ok (.ladd, 1) := by decide +kernel
theorem dX7_drawn_33 : decode cX7_drawn 33 = .ok (.lconst 1, 1) := by decide +kernel
theorem dX7_drawn_34 : decode cX7_drawn 34 = .ok (.ladd, 1) := by decide +kernel
theorem dX7_drawn_35 : decode cX7_drawn 35 = .ok (.lstore 4, 2) := by decide +kernel
theorem dX7_drawn_37 : decode cX7_drawn 37 = .ok (.lload 4, 2) := by decide +kernel
theorem dX7_drawn_39 : decode cX7_drawn 39 = .ok (.lload 4, 2) := by decide +kernel
theorem dX7_drawn_41 : decode cX7_drawn 41 = .ok (.lmul, 1) := by decide +kernel
theorem dX7_drawn_42 : decode cX7_drawn 42 = .ok (.ldc2_w 132, 3) := by decide +kernel
theorem dX7_drawn_45 : decode cX7_drawn 45 = .ok (.lrem, 1) := by decide +kernel
theorem dX7_drawn_46 : decode cX7_drawn 46 = .ok (.l2i, 1) := by decide +kernel
theorem dX7_drawn_47 : decode cX7_drawn 47 = .ok (.ireturn, 1) := by decide +kernel
theorem dX7_waits_0 : decode cX7_waits 0 = .ok (.iload_n 1, 1) := by decide +kernel
theorem dX7_waits_1 : decode cX7_waits 1 = .ok (.iload_n 2, 1) := by decide +kernel
theorem dX7_waits_2 : decode cX7_waits 2 = .ok (.invokestatic 52, 3) := by decide +kernel
theorem dX7_waits_5 : decode cX7_waits 5 = .ok (.istore_n 3, 1) := by decide +kernel
theorem dX7_waits_6 : decode cX7_waits 6 = .ok (.aload_n 0, 1) := by decide +kernel
theorem dX7_waits_7 : decode cX7_waits 7 = .ok (.getfield 13, 3) := by decide +kernel
theorem dX7_waits_10 : decode cX7_waits 10 = .ok (.iload_n 3, 1) := by decide +kernel
theorem dX7_waits_11 : decode cX7_waits 11 = .ok (.iconst 2, 1) := by decide +kernel
theorem dX7_waits_12 : decode cX7_waits 12 = .ok (.iadd, 1) := by decide +kernel
theorem dX7_waits_13 : decode cX7_waits 13 = .ok (.aload_n 0, 1) := by decide +kernel
theorem dX7_waits_14 : decode cX7_waits 14 = .ok (.iload_n 1, 1) := by decide +kernel
theorem dX7_waits_15 : decode cX7_waits 15 = .ok (.iload_n 2, 1) := by decide +kernel
theorem dX7_waits_16 : decode cX7_waits 16 = .ok (.aload_n 0, 1) := by decide +kernel
theorem dX7_waits_17 : decode cX7_waits 17 = .ok (.getfield 13, 3) := by decide +kernel
theorem dX7_waits_20 : decode cX7_waits 20 = .ok (.iload_n 3, 1) := by decide +kernel
theorem dX7_waits_21 : decode cX7_waits 21 = .ok (.bipush 7, 2) := by decide +kernel
theorem dX7_waits_23 : decode cX7_waits 23 = .ok (.iadd, 1) := by decide +kernel
theorem dX7_waits_24 : decode cX7_waits 24 = .ok (.iaload, 1) := by decide +kernel
theorem dX7_waits_25 : decode cX7_waits 25 = .ok (.invokevirtual 134, 3) := by decide +kernel
theorem dX7_waits_28 : decode cX7_waits 28 = .ok (.aload_n 0, 1) := by decide +kernel
theorem dX7_waits_29 : decode cX7_waits 29 = .ok (.getfield 13, 3) := by decide +kernel
theorem dX7_waits_32 : decode cX7_waits 32 = .ok (.iload_n 3, 1) := by decide +kernel
theorem dX7_waits_33 : decode cX7_waits 33 = .ok (.iconst 0, 1) := by decide +kernel
theorem dX7_waits_34 : decode cX7_waits 34 = .ok (.iadd, 1) := by decide +kernel
theorem dX7_waits_35 : decode cX7_waits 35 = .ok (.iaload, 1) := by decide +kernel
theorem dX7_waits_36 : decode cX7_waits 36 = .ok (.irem, 1) := by decide +kernel
theorem dX7_waits_37 : decode cX7_waits 37 = .ok (.iastore, 1) := by decide +kernel
theorem dX7_waits_38 : decode cX7_waits 38 = .ok (.aload_n 0, 1) := by decide +kernel
theorem dX7_waits_39 : decode cX7_waits 39 = .ok (.getfield 13, 3) := by decide +kernel
theorem dX7_waits_42 : decode cX7_waits 42 = .ok (.iload_n 3, 1) := by decide +kernel
theorem dX7_waits_43 : decode cX7_waits 43 = .ok (.bipush 7, 2) := by decide +kernel
theorem dX7_waits_45 : decode cX7_waits 45 = .ok (.iadd, 1) := by decide +kernel
theorem dX7_waits_46 : decode cX7_waits 46 = .ok (.dup2, 1) := by decide +kernel
theorem dX7_waits_47 : decode cX7_waits 47 = .ok (.iaload, 1) := by decide +kernel
theorem dX7_waits_48 : decode cX7_waits 48 = .ok (.iconst 1, 1) := by decide +kernel
theorem dX7_waits_49 : decode cX7_waits 49 = .ok (.iadd, 1) := by decide +kernel
theorem dX7_waits_50 : decode cX7_waits 50 = .ok (.iastore, 1) := by decide +kernel
theorem dX7_waits_51 : decode cX7_waits 51 = .ok (.return_, 1) := by decide +kernel
theorem dX7_comes_0 : decode cX7_comes 0 = .ok (.iload_n 1, 1) := by decide +kernel
theorem dX7_comes_1 : decode cX7_comes 1 = .ok (.iload_n 2, 1) := by decide +kernel
theorem dX7_comes_2 : decode cX7_comes 2 = .ok (.invokestatic 52, 3) := by decide +kernel
theorem dX7_comes_5 : decode cX7_comes 5 = .ok (.istore_n 3, 1) := by decide +kernel
theorem dX7_comes_6 : decode cX7_comes 6 = .ok (.aload_n 0, 1) := by decide +kernel
theorem dX7_comes_7 : decode cX7_comes 7 = .ok (.getfield 13, 3) := by decide +kernel
theorem dX7_comes_10 : decode cX7_comes 10 = .ok (.iload_n 3, 1) := by decide +kernel
theorem dX7_comes_11 : decode cX7_comes 11 = .ok (.bipush 28, 2) := by decide +kernel
theorem dX7_comes_13 : decode cX7_comes 13 = .ok (.iadd, 1) := by decide +kernel
theorem dX7_comes_14 : decode cX7_comes 14 = .ok (.iconst 0, 1) := by decide +kernel
theorem dX7_comes_15 : decode cX7_comes 15 = .ok (.iastore, 1) := by decide +kernel
theorem dX7_comes_16 : decode cX7_comes 16 = .ok (.aload_n 0, 1) := by decide +kernel
theorem dX7_comes_17 : decode cX7_comes 17 = .ok (.getfield 13, 3) := by decide +kernel
theorem dX7_comes_20 : decode cX7_comes 20 = .ok (.iload_n 3, 1) := by decide +kernel
theorem dX7_comes_21 : decode cX7_comes 21 = .ok (.bipush 29, 2) := by decide +kernel
theorem dX7_comes_23 : decode cX7_comes 23 = .ok (.iadd, 1) := by decide +kernel
theorem dX7_comes_24 : decode cX7_comes 24 = .ok (.iconst 0, 1) := by decide +kernel
theorem dX7_comes_25 : decode cX7_comes 25 = .ok (.iastore, 1) := by decide +kernel
theorem dX7_comes_26 : decode cX7_comes 26 = .ok (.aload_n 0, 1) := by decide +kernel
theorem dX7_comes_27 : decode cX7_comes 27 = .ok (.getfield 13, 3) := by decide +kernel
theorem dX7_comes_30 : decode cX7_comes 30 = .ok (.iload_n 3, 1) := by decide +kernel
theorem dX7_comes_31 : decode cX7_comes 31 = .ok (.bipush 26, 2) := by decide +kernel
theorem dX7_comes_33 : decode cX7_comes 33 = .ok (.iadd, 1) := by decide +kernel
theorem dX7_comes_34 : decode cX7_comes 34 = .ok (.iconst 0, 1) := by decide +kernel
theorem dX7_comes_35 : decode cX7_comes 35 = .ok (.iastore, 1) := by decide +kernel
theorem dX7_comes_36 : decode cX7_comes 36 = .ok (.aload_n 0, 1) := by decide +kernel
theorem dX7_comes_37 : decode cX7_comes 37 = .ok (.getfield 13, 3) := by decide +kernel
theorem dX7_comes_40 : decode cX7_comes 40 = .ok (.iload_n 3, 1) := by decide +kernel
theorem dX7_comes_41 : decode cX7_comes 41 = .ok (.bipush 8, 2) := by decide +kernel
theorem dX7_comes_43 : decode cX7_comes 43 = .ok (.iadd, 1) := by decide +kernel
theorem dX7_comes_44 : decode cX7_comes 44 = .ok (.iaload, 1) := by decide +kernel
theorem dX7_comes_45 : decode cX7_comes 45 = .ok (.ifCond .le 9, 3) := by decide +kernel
theorem dX7_comes_48 : decode cX7_comes 48 = .ok (.aload_n 0, 1) := by decide +kernel
theorem dX7_comes_49 : decode cX7_comes 49 = .ok (.iload_n 1, 1) := by decide +kernel
theorem dX7_comes_50 : decode cX7_comes 50 = .ok (.iload_n 2, 1) := by decide +kernel
theorem dX7_comes_51 : decode cX7_comes 51 = .ok (.invokevirtual 138, 3) := by decide +kernel
theorem dX7_comes_54 : decode cX7_comes 54 = .ok (.return_, 1) := by decide +kernel
theorem dX7_overs_0 : decode cX7_overs 0 = .ok (.iload_n 1, 1) := by decide +kernel
theorem dX7_overs_1 : decode cX7_overs 1 = .ok (.iload_n 2, 1) := by decide +kernel
theorem dX7_overs_2 : decode cX7_overs 2 = .ok (.invokestatic 52, 3) := by decide +kernel
theorem dX7_overs_5 : decode cX7_overs 5 = .ok (.istore_n 3, 1) := by decide +kernel
theorem dX7_overs_6 : decode cX7_overs 6 = .ok (.aload_n 0, 1) := by decide +kernel
theorem dX7_overs_7 : decode cX7_overs 7 = .ok (.getfield 13, 3) := by decide +kernel
theorem dX7_overs_10 : decode cX7_overs 10 = .ok (.iload_n 3, 1) := by decide +kernel
theorem dX7_overs_11 : decode cX7_overs 11 = .ok (.bipush 8, 2) := by decide +kernel
theorem dX7_overs_13 : decode cX7_overs 13 = .ok (.iadd, 1) := by decide +kernel
theorem dX7_overs_14 : decode cX7_overs 14 = .ok (.dup2, 1) := by decide +kernel
theorem dX7_overs_15 : decode cX7_overs 15 = .ok (.iaload, 1) := by decide +kernel
theorem dX7_overs_16 : decode cX7_overs 16 = .ok (.iconst 1, 1) := by decide +kernel
theorem dX7_overs_17 : decode cX7_overs 17 = .ok (.isub, 1) := by decide +kernel
theorem dX7_overs_18 : decode cX7_overs 18 = .ok (.iastore, 1) := by decide +kernel
theorem dX7_overs_19 : decode cX7_overs 19 = .ok (.iconst 0, 1) := by decide +kernel
theorem dX7_overs_20 : decode cX7_overs 20 = .ok (.istore 4, 2) := by decide +kernel
theorem dX7_overs_22 : decode cX7_overs 22 = .ok (.iload 4, 2) := by decide +kernel
theorem dX7_overs_24 : decode cX7_overs 24 = .ok (.iconst 2, 1) := by decide +kernel
theorem dX7_overs_25 : decode cX7_overs 25 = .ok (.aload_n 0, 1) := by decide +kernel
theorem dX7_overs_26 : decode cX7_overs 26 = .ok (.getfield 13, 3) := by decide +kernel
theorem dX7_overs_29 : decode cX7_overs 29 = .ok (.iload_n 3, 1) := by decide +kernel
theorem dX7_overs_30 : decode cX7_overs 30 = .ok (.bipush 8, 2) := by decide +kernel
theorem dX7_overs_32 : decode cX7_overs 32 = .ok (.iadd, 1) := by decide +kernel
theorem dX7_overs_33 : decode cX7_overs 33 = .ok (.iaload, 1) := by decide +kernel
theorem dX7_overs_34 : decode cX7_overs 34 = .ok (.imul, 1) := by decide +kernel
theorem dX7_overs_35 : decode cX7_overs 35 = .ok (.if_icmp .ge 35, 3) := by decide +kernel
theorem dX7_overs_38 : decode cX7_overs 38 = .ok (.aload_n 0, 1) := by decide +kernel
theorem dX7_overs_39 : decode cX7_overs 39 = .ok (.getfield 13, 3) := by decide +kernel
theorem dX7_overs_42 : decode cX7_overs 42 = .ok (.iload_n 3, 1) := by decide +kernel
theorem dX7_overs_43 : decode cX7_overs 43 = .ok (.bipush 9, 2) := by decide +kernel
theorem dX7_overs_45 : decode cX7_overs 45 = .ok (.iadd, 1) := by decide +kernel
theorem dX7_overs_46 : decode cX7_overs 46 = .ok (.iload 4, 2) := by decide +kernel
theorem dX7_overs_48 : decode cX7_overs 48 = .ok (.iadd, 1) := by decide +kernel
theorem dX7_overs_49 : decode cX7_overs 49 = .ok (.aload_n 0, 1) := by decide +kernel
theorem dX7_overs_50 : decode cX7_overs 50 = .ok (.getfield 13, 3) := by decide +kernel
theorem dX7_overs_53 : decode cX7_overs 53 = .ok (.iload_n 3, 1) := by decide +kernel
theorem dX7_overs_54 : decode cX7_overs 54 = .ok (.bipush 9, 2) := by decide +kernel
theorem dX7_overs_56 : decode cX7_overs 56 = .ok (.iadd, 1) := by decide +kernel
theorem dX7_overs_57 : decode cX7_overs 57 = .ok (.iload 4, 2) := by decide +kernel
theorem dX7_overs_59 : decode cX7_overs 59 = .ok (.iadd, 1) := by decide +kernel
theorem dX7_overs_60 : decode cX7_overs 60 = .ok (.iconst 2, 1) := by decide +kernel
theorem dX7_overs_61 : decode cX7_overs 61 = .ok (.iadd, 1) := by decide +kernel
theorem dX7_overs_62 : decode cX7_overs 62 = .ok (.iaload, 1) := by decide +kernel
theorem dX7_overs_63 : decode cX7_overs 63 = .ok (.iastore, 1) := by decide +kernel
theorem dX7_overs_64 : decode cX7_overs 64 = .ok (.iinc 4 1, 3) := by decide +kernel
theorem dX7_overs_67 : decode cX7_overs 67 = .ok (.goto (-45), 3) := by decide +kernel
theorem dX7_overs_70 : decode cX7_overs 70 = .ok (.aload_n 0, 1) := by decide +kernel
theorem dX7_overs_71 : decode cX7_overs 71 = .ok (.getfield 13, 3) := by decide +kernel
theorem dX7_overs_74 : decode cX7_overs 74 = .ok (.iload_n 3, 1) := by decide +kernel
theorem dX7_overs_75 : decode cX7_overs 75 = .ok (.iconst 1, 1) := by decide +kernel
theorem dX7_overs_76 : decode cX7_overs 76 = .ok (.iadd, 1) := by decide +kernel
theorem dX7_overs_77 : decode cX7_overs 77 = .ok (.iconst 0, 1) := by decide +kernel
theorem dX7_overs_78 : decode cX7_overs 78 = .ok (.iastore, 1) := by decide +kernel
theorem dX7_overs_79 : decode cX7_overs 79 = .ok (.aload_n 0, 1) := by decide +kernel
theorem dX7_overs_80 : decode cX7_overs 80 = .ok (.getfield 13, 3) := by decide +kernel
theorem dX7_overs_83 : decode cX7_overs 83 = .ok (.iload_n 3, 1) := by decide +kernel
theorem dX7_overs_84 : decode cX7_overs 84 = .ok (.iconst 0, 1) := by decide +kernel
theorem dX7_overs_85 : decode cX7_overs 85 = .ok (.iadd, 1) := by decide +kernel
theorem dX7_overs_86 : decode cX7_overs 86 = .ok (.aload_n 0, 1) := by decide +kernel
theorem dX7_overs_87 : decode cX7_overs 87 = .ok (.getfield 59, 3) := by decide +kernel
theorem dX7_overs_90 : decode cX7_overs 90 = .ok (.iastore, 1) := by decide +kernel
theorem dX7_overs_91 : decode cX7_overs 91 = .ok (.aload_n 0, 1) := by decide +kernel
theorem dX7_overs_92 : decode cX7_overs 92 = .ok (.iload_n 1, 1) := by decide +kernel
theorem dX7_overs_93 : decode cX7_overs 93 = .ok (.iload_n 2, 1) := by decide +kernel
theorem dX7_overs_94 : decode cX7_overs 94 = .ok (.invokevirtual 78, 3) := by decide +kernel
theorem dX7_overs_97 : decode cX7_overs 97 = .ok (.return_, 1) := by decide +kernel
theorem dX7_fails_0 : decode cX7_fails 0 = .ok (.iload_n 1, 1) := by decide +kernel
theorem dX7_fails_1 : decode cX7_fails 1 = .ok (.iload_n 2, 1) := by decide +kernel
theorem dX7_fails_2 : decode cX7_fails 2 = .ok (.invokestatic 52, 3) := by decide +kernel
theorem dX7_fails_5 : decode cX7_fails 5 = .ok (.istore_n 3, 1) := by decide +kernel
theorem dX7_fails_6 : decode cX7_fails 6 = .ok (.aload_n 0, 1) := by decide +kernel
theorem dX7_fails_7 : decode cX7_fails 7 = .ok (.getfield 13, 3) := by decide +kernel
theorem dX7_fails_10 : decode cX7_fails 10 = .ok (.iload_n 3, 1) := by decide +kernel
theorem dX7_fails_11 : decode cX7_fails 11 = .ok (.iconst 1, 1) := by decide +kernel
theorem dX7_fails_12 : decode cX7_fails 12 = .ok (.iadd, 1) := by decide +kernel
theorem dX7_fails_13 : decode cX7_fails 13 = .ok (.dup2, 1) := by decide +kernel
theorem dX7_fails_14 : decode cX7_fails 14 = .ok (.iaload, 1) := by decide +kernel
theorem dX7_fails_15 : decode cX7_fails 15 = .ok (.iconst 1, 1) := by decide +kernel
theorem dX7_fails_16 : decode cX7_fails 16 = .ok (.iadd, 1) := by decide +kernel
theorem dX7_fails_17 : decode cX7_fails 17 = .ok (.iastore, 1) := by decide +kernel
theorem dX7_fails_18 : decode cX7_fails 18 = .ok (.aload_n 0, 1) := by decide +kernel
theorem dX7_fails_19 : decode cX7_fails 19 = .ok (.getfield 13, 3) := by decide +kernel
theorem dX7_fails_22 : decode cX7_fails 22 = .ok (.iload_n 3, 1) := by decide +kernel
theorem dX7_fails_23 : decode cX7_fails 23 = .ok (.iconst 1, 1) := by decide +kernel
theorem dX7_fails_24 : decode cX7_fails 24 = .ok (.iadd, 1) := by decide +kernel
theorem dX7_fails_25 : decode cX7_fails 25 = .ok (.iaload, 1) := by decide +kernel
theorem dX7_fails_26 : decode cX7_fails 26 = .ok (.aload_n 0, 1) := by decide +kernel
theorem dX7_fails_27 : decode cX7_fails 27 = .ok (.getfield 68, 3) := by decide +kernel
theorem dX7_fails_30 : decode cX7_fails 30 = .ok (.if_icmp .lt 23, 3) := by decide +kernel
theorem dX7_fails_33 : decode cX7_fails 33 = .ok (.aload_n 0, 1) := by decide +kernel
theorem dX7_fails_34 : decode cX7_fails 34 = .ok (.getfield 13, 3) := by decide +kernel
theorem dX7_fails_37 : decode cX7_fails 37 = .ok (.iload_n 3, 1) := by decide +kernel
theorem dX7_fails_38 : decode cX7_fails 38 = .ok (.bipush 6, 2) := by decide +kernel
theorem dX7_fails_40 : decode cX7_fails 40 = .ok (.iadd, 1) := by decide +kernel
theorem dX7_fails_41 : decode cX7_fails 41 = .ok (.dup2, 1) := by decide +kernel
theorem dX7_fails_42 : decode cX7_fails 42 = .ok (.iaload, 1) := by decide +kernel
theorem dX7_fails_43 : decode cX7_fails 43 = .ok (.iconst 1, 1) := by decide +kernel
theorem dX7_fails_44 : decode cX7_fails 44 = .ok (.iadd, 1) := by decide +kernel
theorem dX7_fails_45 : decode cX7_fails 45 = .ok (.iastore, 1) := by decide +kernel
theorem dX7_fails_46 : decode cX7_fails 46 = .ok (.aload_n 0, 1) := by decide +kernel
theorem dX7_fails_47 : decode cX7_fails 47 = .ok (.iload_n 1, 1) := by decide +kernel
theorem dX7_fails_48 : decode cX7_fails 48 = .ok (.iload_n 2, 1) := by decide +kernel
theorem dX7_fails_49 : decode cX7_fails 49 = .ok (.invokevirtual 141, 3) := by decide +kernel
theorem dX7_fails_52 : decode cX7_fails 52 = .ok (.return_, 1) := by decide +kernel
theorem dX7_fails_53 : decode cX7_fails 53 = .ok (.iconst 2, 1) := by decide +kernel
theorem dX7_fails_54 : decode cX7_fails 54 = .ok (.aload_n 0, 1) := by decide +kernel
theorem dX7_fails_55 : decode cX7_fails 55 = .ok (.getfield 13, 3) := by decide +kernel
theorem dX7_fails_58 : decode cX7_fails 58 = .ok (.iload_n 3, 1) := by decide +kernel
theorem dX7_fails_59 : decode cX7_fails 59 = .ok (.iconst 0, 1) := by decide +kernel
theorem dX7_fails_60 : decode cX7_fails 60 = .ok (.iadd, 1) := by decide +kernel
theorem dX7_fails_61 : decode cX7_fails 61 = .ok (.iaload, 1) := by decide +kernel
theorem dX7_fails_62 : decode cX7_fails 62 = .ok (.imul, 1) := by decide +kernel
theorem dX7_fails_63 : decode cX7_fails 63 = .ok (.istore 4, 2) := by decide +kernel
theorem dX7_fails_65 : decode cX7_fails 65 = .ok (.aload_n 0, 1) := by decide +kernel
theorem dX7_fails_66 : decode cX7_fails 66 = .ok (.getfield 13, 3) := by decide +kernel
theorem dX7_fails_69 : decode cX7_fails 69 = .ok (.iload_n 3, 1) := by decide +kernel
theorem dX7_fails_70 : decode cX7_fails 70 = .ok (.iconst 0, 1) := by decide +kernel
theorem dX7_fails_71 : decode cX7_fails 71 = .ok (.iadd, 1) := by decide +kernel
theorem dX7_fails_72 : decode cX7_fails 72 = .ok (.iload 4, 2) := by decide +kernel
theorem dX7_fails_74 : decode cX7_fails 74 = .ok (.aload_n 0, 1) := by decide +kernel
theorem dX7_fails_75 : decode cX7_fails 75 = .ok (.getfield 62, 3) := by decide +kernel
theorem dX7_fails_78 : decode cX7_fails 78 = .ok (.if_icmp .le 10, 3) := by decide +kernel
theorem dX7_fails_81 : decode cX7_fails 81 = .ok (.aload_n 0, 1) := by decide +kernel
theorem dX7_fails_82 : decode cX7_fails 82 = .ok (.getfield 62, 3) := by decide +kernel
theorem dX7_fails_85 : decode cX7_fails 85 = .ok (.goto 5, 3) := by decide +kernel
theorem dX7_fails_88 : decode cX7_fails 88 = .ok (.iload 4, 2) := by decide +kernel
theorem dX7_fails_90 : decode cX7_fails 90 = .ok (.iastore, 1) := by decide +kernel
theorem dX7_fails_91 : decode cX7_fails 91 = .ok (.aload_n 0, 1) := by decide +kernel
theorem dX7_fails_92 : decode cX7_fails 92 = .ok (.iload_n 1, 1) := by decide +kernel
theorem dX7_fails_93 : decode cX7_fails 93 = .ok (.iload_n 2, 1) := by decide +kernel
theorem dX7_fails_94 : decode cX7_fails 94 = .ok (.invokevirtual 78, 3) := by decide +kernel
theorem dX7_fails_97 : decode cX7_fails 97 = .ok (.return_, 1) := by decide +kernel
theorem dX7_sent_0 : decode cX7_sent 0 = .ok (.iload_n 1, 1) := by decide +kernel
theorem dX7_sent_1 : decode cX7_sent 1 = .ok (.iload_n 2, 1) := by decide +kernel
theorem dX7_sent_2 : decode cX7_sent 2 = .ok (.invokestatic 52, 3) := by decide +kernel
theorem dX7_sent_5 : decode cX7_sent 5 = .ok (.istore_n 3, 1) := by decide +kernel
theorem dX7_sent_6 : decode cX7_sent 6 = .ok (.aload_n 0, 1) := by decide +kernel
theorem dX7_sent_7 : decode cX7_sent 7 = .ok (.getfield 13, 3) := by decide +kernel
theorem dX7_sent_10 : decode cX7_sent 10 = .ok (.iload_n 3, 1) := by decide +kernel
theorem dX7_sent_11 : decode cX7_sent 11 = .ok (.iconst 5, 1) := by decide +kernel
theorem dX7_sent_12 : decode cX7_sent 12 = .ok (.iadd, 1) := by decide +kernel
theorem dX7_sent_13 : decode cX7_sent 13 = .ok (.dup2, 1) := by decide +kernel
theorem dX7_sent_14 : decode cX7_sent 14 = .ok (.iaload, 1) := by decide +kernel
theorem dX7_sent_15 : decode cX7_sent 15 = .ok (.iconst 1, 1) := by decide +kernel
theorem dX7_sent_16 : decode cX7_sent 16 = .ok (.iadd, 1) := by decide +kernel
theorem dX7_sent_17 : decode cX7_sent 17 = .ok (.iastore, 1) := by decide +kernel
theorem dX7_sent_18 : decode cX7_sent 18 = .ok (.aload_n 0, 1) := by decide +kernel
theorem dX7_sent_19 : decode cX7_sent 19 = .ok (.getfield 13, 3) := by decide +kernel
theorem dX7_sent_22 : decode cX7_sent 22 = .ok (.sipush 440, 3) := by decide +kernel
theorem dX7_sent_25 : decode cX7_sent 25 = .ok (.iload_n 1, 1) := by decide +kernel
theorem dX7_sent_26 : decode cX7_sent 26 = .ok (.imul, 1) := by decide +kernel
theorem dX7_sent_27 : decode cX7_sent 27 = .ok (.sipush 429, 3) := by decide +kernel
theorem dX7_sent_30 : decode cX7_sent 30 = .ok (.iadd, 1) := by decide +kernel
theorem dX7_sent_31 : decode cX7_sent 31 = .ok (.aload_n 0, 1) := by decide +kernel
theorem dX7_sent_32 : decode cX7_sent 32 = .ok (.getfield 13, 3) := by decide +kernel
theorem dX7_sent_35 : decode cX7_sent 35 = .ok (.iload_n 3, 1) := by decide +kernel
theorem dX7_sent_36 : decode cX7_sent 36 = .ok (.iconst 1, 1) := by decide +kernel
theorem dX7_sent_37 : decode cX7_sent 37 = .ok (.iadd, 1) := by decide +kernel
theorem dX7_sent_38 : decode cX7_sent 38 = .ok (.iaload, 1) := by decide +kernel
theorem dX7_sent_39 : decode cX7_sent 39 = .ok (.iadd, 1) := by decide +kernel
end
section
theorem dX7_sent_40 : decode cX7_sent 40 = .ok (.iconst 1, 1) := by decide +kernel
theorem dX7_sent_41 : decode cX7_sent 41 = .ok (.iadd, 1) := by decide +kernel
theorem dX7_sent_42 : decode cX7_sent 42 = .ok (.dup2, 1) := by decide +kernel
theorem dX7_sent_43 : decode cX7_sent 43 = .ok (.iaload, 1) := by decide +kernel
theorem dX7_sent_44 : decode cX7_sent 44 = .ok (.iconst 1, 1) := by decide +kernel
theorem dX7_sent_45 : decode cX7_sent 45 = .ok (.iadd, 1) := by decide +kernel
theorem dX7_sent_46 : decode cX7_sent 46 = .ok (.iastore, 1) := by decide +kernel
theorem dX7_sent_47 : decode cX7_sent 47 = .ok (.aload_n 0, 1) := by decide +kernel
theorem dX7_sent_48 : decode cX7_sent 48 = .ok (.iload_n 1, 1) := by decide +kernel
theorem dX7_sent_49 : decode cX7_sent 49 = .ok (.iload_n 2, 1) := by decide +kernel
theorem dX7_sent_50 : decode cX7_sent 50 = .ok (.invokevirtual 141, 3) := by decide +kernel
theorem dX7_sent_53 : decode cX7_sent 53 = .ok (.return_, 1) := by decide +kernel
theorem dX7_isFree_0 : decode cX7_isFree 0 = .ok (.iload_n 3, 1) := by decide +kernel
theorem dX7_isFree_1 : decode cX7_isFree 1 = .ok (.aload_n 0, 1) := by decide +kernel
theorem dX7_isFree_2 : decode cX7_isFree 2 = .ok (.getfield 13, 3) := by decide +kernel
theorem dX7_isFree_5 : decode cX7_isFree 5 = .ok (.iload_n 1, 1) := by decide +kernel
theorem dX7_isFree_6 : decode cX7_isFree 6 = .ok (.iload_n 2, 1) := by decide +kernel
theorem dX7_isFree_7 : decode cX7_isFree 7 = .ok (.invokestatic 52, 3) := by decide +kernel
theorem dX7_isFree_10 : decode cX7_isFree 10 = .ok (.iconst 3, 1) := by decide +kernel
theorem dX7_isFree_11 : decode cX7_isFree 11 = .ok (.iadd, 1) := by decide +kernel
theorem dX7_isFree_12 : decode cX7_isFree 12 = .ok (.iaload, 1) := by decide +kernel
theorem dX7_isFree_13 : decode cX7_isFree 13 = .ok (.if_icmp .le 41, 3) := by decide +kernel
theorem dX7_isFree_16 : decode cX7_isFree 16 = .ok (.aload_n 0, 1) := by decide +kernel
theorem dX7_isFree_17 : decode cX7_isFree 17 = .ok (.getfield 13, 3) := by decide +kernel
theorem dX7_isFree_20 : decode cX7_isFree 20 = .ok (.sipush 440, 3) := by decide +kernel
theorem dX7_isFree_23 : decode cX7_isFree 23 = .ok (.iload_n 1, 1) := by decide +kernel
theorem dX7_isFree_24 : decode cX7_isFree 24 = .ok (.imul, 1) := by decide +kernel
theorem dX7_isFree_25 : decode cX7_isFree 25 = .ok (.sipush 420, 3) := by decide +kernel
theorem dX7_isFree_28 : decode cX7_isFree 28 = .ok (.iadd, 1) := by decide +kernel
theorem dX7_isFree_29 : decode cX7_isFree 29 = .ok (.iload_n 2, 1) := by decide +kernel
theorem dX7_isFree_30 : decode cX7_isFree 30 = .ok (.iadd, 1) := by decide +kernel
theorem dX7_isFree_31 : decode cX7_isFree 31 = .ok (.iaload, 1) := by decide +kernel
theorem dX7_isFree_32 : decode cX7_isFree 32 = .ok (.aload_n 0, 1) := by decide +kernel
theorem dX7_isFree_33 : decode cX7_isFree 33 = .ok (.getfield 13, 3) := by decide +kernel
theorem dX7_isFree_36 : decode cX7_isFree 36 = .ok (.sipush 440, 3) := by decide +kernel
theorem dX7_isFree_39 : decode cX7_isFree 39 = .ok (.iload_n 1, 1) := by decide +kernel
theorem dX7_isFree_40 : decode cX7_isFree 40 = .ok (.imul, 1) := by decide +kernel
theorem dX7_isFree_41 : decode cX7_isFree 41 = .ok (.sipush 427, 3) := by decide +kernel
theorem dX7_isFree_44 : decode cX7_isFree 44 = .ok (.iadd, 1) := by decide +kernel
theorem dX7_isFree_45 : decode cX7_isFree 45 = .ok (.iaload, 1) := by decide +kernel
theorem dX7_isFree_46 : decode cX7_isFree 46 = .ok (.iand, 1) := by decide +kernel
theorem dX7_isFree_47 : decode cX7_isFree 47 = .ok (.ifCond .ne 7, 3) := by decide +kernel
theorem dX7_isFree_50 : decode cX7_isFree 50 = .ok (.iconst 1, 1) := by decide +kernel
theorem dX7_isFree_51 : decode cX7_isFree 51 = .ok (.goto 4, 3) := by decide +kernel
theorem dX7_isFree_54 : decode cX7_isFree 54 = .ok (.iconst 0, 1) := by decide +kernel
theorem dX7_isFree_55 : decode cX7_isFree 55 = .ok (.ireturn, 1) := by decide +kernel
theorem dX7_mayBegin_0 : decode cX7_mayBegin 0 = .ok (.iload_n 1, 1) := by decide +kernel
theorem dX7_mayBegin_1 : decode cX7_mayBegin 1 = .ok (.iload_n 2, 1) := by decide +kernel
theorem dX7_mayBegin_2 : decode cX7_mayBegin 2 = .ok (.invokestatic 52, 3) := by decide +kernel
theorem dX7_mayBegin_5 : decode cX7_mayBegin 5 = .ok (.istore 4, 2) := by decide +kernel
theorem dX7_mayBegin_7 : decode cX7_mayBegin 7 = .ok (.aload_n 0, 1) := by decide +kernel
theorem dX7_mayBegin_8 : decode cX7_mayBegin 8 = .ok (.getfield 13, 3) := by decide +kernel
theorem dX7_mayBegin_11 : decode cX7_mayBegin 11 = .ok (.iload 4, 2) := by decide +kernel
theorem dX7_mayBegin_13 : decode cX7_mayBegin 13 = .ok (.bipush 26, 2) := by decide +kernel
theorem dX7_mayBegin_15 : decode cX7_mayBegin 15 = .ok (.iadd, 1) := by decide +kernel
theorem dX7_mayBegin_16 : decode cX7_mayBegin 16 = .ok (.iaload, 1) := by decide +kernel
theorem dX7_mayBegin_17 : decode cX7_mayBegin 17 = .ok (.ifCond .le 21, 3) := by decide +kernel
theorem dX7_mayBegin_20 : decode cX7_mayBegin 20 = .ok (.aload_n 0, 1) := by decide +kernel
theorem dX7_mayBegin_21 : decode cX7_mayBegin 21 = .ok (.getfield 13, 3) := by decide +kernel
theorem dX7_mayBegin_24 : decode cX7_mayBegin 24 = .ok (.iload 4, 2) := by decide +kernel
theorem dX7_mayBegin_26 : decode cX7_mayBegin 26 = .ok (.bipush 27, 2) := by decide +kernel
theorem dX7_mayBegin_28 : decode cX7_mayBegin 28 = .ok (.iadd, 1) := by decide +kernel
theorem dX7_mayBegin_29 : decode cX7_mayBegin 29 = .ok (.iaload, 1) := by decide +kernel
theorem dX7_mayBegin_30 : decode cX7_mayBegin 30 = .ok (.iload_n 3, 1) := by decide +kernel
theorem dX7_mayBegin_31 : decode cX7_mayBegin 31 = .ok (.if_icmp .ne 7, 3) := by decide +kernel
theorem dX7_mayBegin_34 : decode cX7_mayBegin 34 = .ok (.iconst 1, 1) := by decide +kernel
theorem dX7_mayBegin_35 : decode cX7_mayBegin 35 = .ok (.goto 4, 3) := by decide +kernel
theorem dX7_mayBegin_38 : decode cX7_mayBegin 38 = .ok (.iconst 0, 1) := by decide +kernel
theorem dX7_mayBegin_39 : decode cX7_mayBegin 39 = .ok (.istore 5, 2) := by decide +kernel
theorem dX7_mayBegin_41 : decode cX7_mayBegin 41 = .ok (.iload 5, 2) := by decide +kernel
theorem dX7_mayBegin_43 : decode cX7_mayBegin 43 = .ok (.ifCond .ne 30, 3) := by decide +kernel
theorem dX7_mayBegin_46 : decode cX7_mayBegin 46 = .ok (.aload_n 0, 1) := by decide +kernel
theorem dX7_mayBegin_47 : decode cX7_mayBegin 47 = .ok (.getfield 13, 3) := by decide +kernel
theorem dX7_mayBegin_50 : decode cX7_mayBegin 50 = .ok (.iload 4, 2) := by decide +kernel
theorem dX7_mayBegin_52 : decode cX7_mayBegin 52 = .ok (.bipush 8, 2) := by decide +kernel
theorem dX7_mayBegin_54 : decode cX7_mayBegin 54 = .ok (.iadd, 1) := by decide +kernel
theorem dX7_mayBegin_55 : decode cX7_mayBegin 55 = .ok (.iaload, 1) := by decide +kernel
theorem dX7_mayBegin_56 : decode cX7_mayBegin 56 = .ok (.ifCond .le 17, 3) := by decide +kernel
theorem dX7_mayBegin_59 : decode cX7_mayBegin 59 = .ok (.aload_n 0, 1) := by decide +kernel
theorem dX7_mayBegin_60 : decode cX7_mayBegin 60 = .ok (.iload_n 1, 1) := by decide +kernel
theorem dX7_mayBegin_61 : decode cX7_mayBegin 61 = .ok (.iload_n 2, 1) := by decide +kernel
theorem dX7_mayBegin_62 : decode cX7_mayBegin 62 = .ok (.iload_n 3, 1) := by decide +kernel
theorem dX7_mayBegin_63 : decode cX7_mayBegin 63 = .ok (.invokevirtual 144, 3) := by decide +kernel
theorem dX7_mayBegin_66 : decode cX7_mayBegin 66 = .ok (.ifCond .eq 7, 3) := by decide +kernel
theorem dX7_mayBegin_69 : decode cX7_mayBegin 69 = .ok (.iconst 1, 1) := by decide +kernel
theorem dX7_mayBegin_70 : decode cX7_mayBegin 70 = .ok (.goto 4, 3) := by decide +kernel
theorem dX7_mayBegin_73 : decode cX7_mayBegin 73 = .ok (.iconst 0, 1) := by decide +kernel
theorem dX7_mayBegin_74 : decode cX7_mayBegin 74 = .ok (.ireturn, 1) := by decide +kernel
theorem dX7_says_0 : decode cX7_says 0 = .ok (.iload_n 1, 1) := by decide +kernel
theorem dX7_says_1 : decode cX7_says 1 = .ok (.iload_n 2, 1) := by decide +kernel
theorem dX7_says_2 : decode cX7_says 2 = .ok (.invokestatic 52, 3) := by decide +kernel
theorem dX7_says_5 : decode cX7_says 5 = .ok (.istore 4, 2) := by decide +kernel
theorem dX7_says_7 : decode cX7_says 7 = .ok (.aload_n 0, 1) := by decide +kernel
theorem dX7_says_8 : decode cX7_says 8 = .ok (.getfield 22, 3) := by decide +kernel
theorem dX7_says_11 : decode cX7_says 11 = .ok (.iload_n 2, 1) := by decide +kernel
theorem dX7_says_12 : decode cX7_says 12 = .ok (.iconst 0, 1) := by decide +kernel
theorem dX7_says_13 : decode cX7_says 13 = .ok (.iastore, 1) := by decide +kernel
theorem dX7_says_14 : decode cX7_says 14 = .ok (.aload_n 0, 1) := by decide +kernel
theorem dX7_says_15 : decode cX7_says 15 = .ok (.getfield 25, 3) := by decide +kernel
theorem dX7_says_18 : decode cX7_says 18 = .ok (.iload_n 2, 1) := by decide +kernel
theorem dX7_says_19 : decode cX7_says 19 = .ok (.aload_n 0, 1) := by decide +kernel
theorem dX7_says_20 : decode cX7_says 20 = .ok (.getfield 13, 3) := by decide +kernel
theorem dX7_says_23 : decode cX7_says 23 = .ok (.iload 4, 2) := by decide +kernel
theorem dX7_says_25 : decode cX7_says 25 = .ok (.bipush 9, 2) := by decide +kernel
theorem dX7_says_27 : decode cX7_says 27 = .ok (.iadd, 1) := by decide +kernel
theorem dX7_says_28 : decode cX7_says 28 = .ok (.iaload, 1) := by decide +kernel
theorem dX7_says_29 : decode cX7_says 29 = .ok (.iastore, 1) := by decide +kernel
theorem dX7_says_30 : decode cX7_says 30 = .ok (.aload_n 0, 1) := by decide +kernel
theorem dX7_says_31 : decode cX7_says 31 = .ok (.getfield 28, 3) := by decide +kernel
theorem dX7_says_34 : decode cX7_says 34 = .ok (.iload_n 2, 1) := by decide +kernel
theorem dX7_says_35 : decode cX7_says 35 = .ok (.aload_n 0, 1) := by decide +kernel
theorem dX7_says_36 : decode cX7_says 36 = .ok (.getfield 13, 3) := by decide +kernel
theorem dX7_says_39 : decode cX7_says 39 = .ok (.iload 4, 2) := by decide +kernel
theorem dX7_says_41 : decode cX7_says 41 = .ok (.bipush 9, 2) := by decide +kernel
theorem dX7_says_43 : decode cX7_says 43 = .ok (.iadd, 1) := by decide +kernel
theorem dX7_says_44 : decode cX7_says 44 = .ok (.iconst 1, 1) := by decide +kernel
theorem dX7_says_45 : decode cX7_says 45 = .ok (.iadd, 1) := by decide +kernel
theorem dX7_says_46 : decode cX7_says 46 = .ok (.iaload, 1) := by decide +kernel
theorem dX7_says_47 : decode cX7_says 47 = .ok (.iastore, 1) := by decide +kernel
theorem dX7_says_48 : decode cX7_says 48 = .ok (.aload_n 0, 1) := by decide +kernel
theorem dX7_says_49 : decode cX7_says 49 = .ok (.getfield 31, 3) := by decide +kernel
theorem dX7_says_52 : decode cX7_says 52 = .ok (.iload_n 2, 1) := by decide +kernel
theorem dX7_says_53 : decode cX7_says 53 = .ok (.aload_n 0, 1) := by decide +kernel
theorem dX7_says_54 : decode cX7_says 54 = .ok (.getfield 13, 3) := by decide +kernel
theorem dX7_says_57 : decode cX7_says 57 = .ok (.iload 4, 2) := by decide +kernel
theorem dX7_says_59 : decode cX7_says 59 = .ok (.bipush 28, 2) := by decide +kernel
theorem dX7_says_61 : decode cX7_says 61 = .ok (.iadd, 1) := by decide +kernel
theorem dX7_says_62 : decode cX7_says 62 = .ok (.iaload, 1) := by decide +kernel
theorem dX7_says_63 : decode cX7_says 63 = .ok (.iastore, 1) := by decide +kernel
theorem dX7_says_64 : decode cX7_says 64 = .ok (.aload_n 0, 1) := by decide +kernel
theorem dX7_says_65 : decode cX7_says 65 = .ok (.getfield 13, 3) := by decide +kernel
theorem dX7_says_68 : decode cX7_says 68 = .ok (.iload 4, 2) := by decide +kernel
theorem dX7_says_70 : decode cX7_says 70 = .ok (.bipush 21, 2) := by decide +kernel
theorem dX7_says_72 : decode cX7_says 72 = .ok (.iadd, 1) := by decide +kernel
theorem dX7_says_73 : decode cX7_says 73 = .ok (.iaload, 1) := by decide +kernel
theorem dX7_says_74 : decode cX7_says 74 = .ok (.iload_n 3, 1) := by decide +kernel
theorem dX7_says_75 : decode cX7_says 75 = .ok (.if_icmp .ne 49, 3) := by decide +kernel
theorem dX7_says_78 : decode cX7_says 78 = .ok (.aload_n 0, 1) := by decide +kernel
theorem dX7_says_79 : decode cX7_says 79 = .ok (.getfield 22, 3) := by decide +kernel
theorem dX7_says_82 : decode cX7_says 82 = .ok (.iload_n 2, 1) := by decide +kernel
theorem dX7_says_83 : decode cX7_says 83 = .ok (.iconst 2, 1) := by decide +kernel
theorem dX7_says_84 : decode cX7_says 84 = .ok (.iastore, 1) := by decide +kernel
theorem dX7_says_85 : decode cX7_says 85 = .ok (.aload_n 0, 1) := by decide +kernel
theorem dX7_says_86 : decode cX7_says 86 = .ok (.getfield 25, 3) := by decide +kernel
theorem dX7_says_89 : decode cX7_says 89 = .ok (.iload_n 2, 1) := by decide +kernel
theorem dX7_says_90 : decode cX7_says 90 = .ok (.aload_n 0, 1) := by decide +kernel
theorem dX7_says_91 : decode cX7_says 91 = .ok (.getfield 13, 3) := by decide +kernel
theorem dX7_says_94 : decode cX7_says 94 = .ok (.iload 4, 2) := by decide +kernel
theorem dX7_says_96 : decode cX7_says 96 = .ok (.bipush 21, 2) := by decide +kernel
theorem dX7_says_98 : decode cX7_says 98 = .ok (.iadd, 1) := by decide +kernel
theorem dX7_says_99 : decode cX7_says 99 = .ok (.iconst 1, 1) := by decide +kernel
theorem dX7_says_100 : decode cX7_says 100 = .ok (.iadd, 1) := by decide +kernel
theorem dX7_says_101 : decode cX7_says 101 = .ok (.iaload, 1) := by decide +kernel
theorem dX7_says_102 : decode cX7_says 102 = .ok (.iastore, 1) := by decide +kernel
theorem dX7_says_103 : decode cX7_says 103 = .ok (.aload_n 0, 1) := by decide +kernel
theorem dX7_says_104 : decode cX7_says 104 = .ok (.getfield 28, 3) := by decide +kernel
theorem dX7_says_107 : decode cX7_says 107 = .ok (.iload_n 2, 1) := by decide +kernel
theorem dX7_says_108 : decode cX7_says 108 = .ok (.aload_n 0, 1) := by decide +kernel
theorem dX7_says_109 : decode cX7_says 109 = .ok (.getfield 13, 3) := by decide +kernel
theorem dX7_says_112 : decode cX7_says 112 = .ok (.iload 4, 2) := by decide +kernel
theorem dX7_says_114 : decode cX7_says 114 = .ok (.bipush 21, 2) := by decide +kernel
theorem dX7_says_116 : decode cX7_says 116 = .ok (.iadd, 1) := by decide +kernel
theorem dX7_says_117 : decode cX7_says 117 = .ok (.iconst 2, 1) := by decide +kernel
theorem dX7_says_118 : decode cX7_says 118 = .ok (.iadd, 1) := by decide +kernel
theorem dX7_says_119 : decode cX7_says 119 = .ok (.iaload, 1) := by decide +kernel
theorem dX7_says_120 : decode cX7_says 120 = .ok (.iastore, 1) := by decide +kernel
theorem dX7_says_121 : decode cX7_says 121 = .ok (.goto 115, 3) := by decide +kernel
theorem dX7_says_124 : decode cX7_says 124 = .ok (.aload_n 0, 1) := by decide +kernel
theorem dX7_says_125 : decode cX7_says 125 = .ok (.getfield 13, 3) := by decide +kernel
theorem dX7_says_128 : decode cX7_says 128 = .ok (.iload 4, 2) := by decide +kernel
theorem dX7_says_130 : decode cX7_says 130 = .ok (.bipush 24, 2) := by decide +kernel
theorem dX7_says_132 : decode cX7_says 132 = .ok (.iadd, 1) := by decide +kernel
theorem dX7_says_133 : decode cX7_says 133 = .ok (.iaload, 1) := by decide +kernel
theorem dX7_says_134 : decode cX7_says 134 = .ok (.iload_n 3, 1) := by decide +kernel
theorem dX7_says_135 : decode cX7_says 135 = .ok (.if_icmp .ne 31, 3) := by decide +kernel
theorem dX7_says_138 : decode cX7_says 138 = .ok (.aload_n 0, 1) := by decide +kernel
theorem dX7_says_139 : decode cX7_says 139 = .ok (.getfield 22, 3) := by decide +kernel
theorem dX7_says_142 : decode cX7_says 142 = .ok (.iload_n 2, 1) := by decide +kernel
theorem dX7_says_143 : decode cX7_says 143 = .ok (.iconst 4, 1) := by decide +kernel
theorem dX7_says_144 : decode cX7_says 144 = .ok (.iastore, 1) := by decide +kernel
theorem dX7_says_145 : decode cX7_says 145 = .ok (.aload_n 0, 1) := by decide +kernel
theorem dX7_says_146 : decode cX7_says 146 = .ok (.getfield 25, 3) := by decide +kernel
theorem dX7_says_149 : decode cX7_says 149 = .ok (.iload_n 2, 1) := by decide +kernel
theorem dX7_says_150 : decode cX7_says 150 = .ok (.aload_n 0, 1) := by decide +kernel
theorem dX7_says_151 : decode cX7_says 151 = .ok (.getfield 13, 3) := by decide +kernel
theorem dX7_says_154 : decode cX7_says 154 = .ok (.iload 4, 2) := by decide +kernel
theorem dX7_says_156 : decode cX7_says 156 = .ok (.bipush 24, 2) := by decide +kernel
theorem dX7_says_158 : decode cX7_says 158 = .ok (.iadd, 1) := by decide +kernel
theorem dX7_says_159 : decode cX7_says 159 = .ok (.iconst 1, 1) := by decide +kernel
theorem dX7_says_160 : decode cX7_says 160 = .ok (.iadd, 1) := by decide +kernel
theorem dX7_says_161 : decode cX7_says 161 = .ok (.iaload, 1) := by decide +kernel
theorem dX7_says_162 : decode cX7_says 162 = .ok (.iastore, 1) := by decide +kernel
theorem dX7_says_163 : decode cX7_says 163 = .ok (.goto 73, 3) := by decide +kernel
theorem dX7_says_166 : decode cX7_says 166 = .ok (.aload_n 0, 1) := by decide +kernel
theorem dX7_says_167 : decode cX7_says 167 = .ok (.getfield 13, 3) := by decide +kernel
theorem dX7_says_170 : decode cX7_says 170 = .ok (.iload 4, 2) := by decide +kernel
theorem dX7_says_172 : decode cX7_says 172 = .ok (.bipush 29, 2) := by decide +kernel
theorem dX7_says_174 : decode cX7_says 174 = .ok (.iadd, 1) := by decide +kernel
theorem dX7_says_175 : decode cX7_says 175 = .ok (.iaload, 1) := by decide +kernel
theorem dX7_says_176 : decode cX7_says 176 = .ok (.iconst 1, 1) := by decide +kernel
theorem dX7_says_177 : decode cX7_says 177 = .ok (.if_icmp .ne 13, 3) := by decide +kernel
theorem dX7_says_180 : decode cX7_says 180 = .ok (.aload_n 0, 1) := by decide +kernel
theorem dX7_says_181 : decode cX7_says 181 = .ok (.getfield 22, 3) := by decide +kernel
theorem dX7_says_184 : decode cX7_says 184 = .ok (.iload_n 2, 1) := by decide +kernel
theorem dX7_says_185 : decode cX7_says 185 = .ok (.iconst 3, 1) := by decide +kernel
theorem dX7_says_186 : decode cX7_says 186 = .ok (.iastore, 1) := by decide +kernel
theorem dX7_says_187 : decode cX7_says 187 = .ok (.goto 49, 3) := by decide +kernel
theorem dX7_says_190 : decode cX7_says 190 = .ok (.aload_n 0, 1) := by decide +kernel
theorem dX7_says_191 : decode cX7_says 191 = .ok (.iload_n 1, 1) := by decide +kernel
theorem dX7_says_192 : decode cX7_says 192 = .ok (.iload_n 2, 1) := by decide +kernel
theorem dX7_says_193 : decode cX7_says 193 = .ok (.iload_n 3, 1) := by decide +kernel
theorem dX7_says_194 : decode cX7_says 194 = .ok (.invokevirtual 147, 3) := by decide +kernel
theorem dX7_says_197 : decode cX7_says 197 = .ok (.ifCond .eq 39, 3) := by decide +kernel
theorem dX7_says_200 : decode cX7_says 200 = .ok (.aload_n 0, 1) := by decide +kernel
theorem dX7_says_201 : decode cX7_says 201 = .ok (.getfield 13, 3) := by decide +kernel
theorem dX7_says_204 : decode cX7_says 204 = .ok (.iload 4, 2) := by decide +kernel
theorem dX7_says_206 : decode cX7_says 206 = .ok (.iconst 2, 1) := by decide +kernel
theorem dX7_says_207 : decode cX7_says 207 = .ok (.iadd, 1) := by decide +kernel
theorem dX7_says_208 : decode cX7_says 208 = .ok (.iaload, 1) := by decide +kernel
theorem dX7_says_209 : decode cX7_says 209 = .ok (.ifCond .ne 27, 3) := by decide +kernel
theorem dX7_says_212 : decode cX7_says 212 = .ok (.aload_n 0, 1) := by decide +kernel
theorem dX7_says_213 : decode cX7_says 213 = .ok (.getfield 22, 3) := by decide +kernel
theorem dX7_says_216 : decode cX7_says 216 = .ok (.iload_n 2, 1) := by decide +kernel
theorem dX7_says_217 : decode cX7_says 217 = .ok (.aload_n 0, 1) := by decide +kernel
theorem dX7_says_218 : decode cX7_says 218 = .ok (.getfield 28, 3) := by decide +kernel
theorem dX7_says_221 : decode cX7_says 221 = .ok (.iload_n 2, 1) := by decide +kernel
theorem dX7_says_222 : decode cX7_says 222 = .ok (.iaload, 1) := by decide +kernel
theorem dX7_says_223 : decode cX7_says 223 = .ok (.aload_n 0, 1) := by decide +kernel
theorem dX7_says_224 : decode cX7_says 224 = .ok (.getfield 65, 3) := by decide +kernel
theorem dX7_says_227 : decode cX7_says 227 = .ok (.if_icmp .lt 7, 3) := by decide +kernel
theorem dX7_says_230 : decode cX7_says 230 = .ok (.iconst 1, 1) := by decide +kernel
theorem dX7_says_231 : decode cX7_says 231 = .ok (.goto 4, 3) := by decide +kernel
theorem dX7_says_234 : decode cX7_says 234 = .ok (.iconst 3, 1) := by decide +kernel
theorem dX7_says_235 : decode cX7_says 235 = .ok (.iastore, 1) := by decide +kernel
theorem dX7_says_236 : decode cX7_says 236 = .ok (.return_, 1) := by decide +kernel
theorem dX7_sends_0 : decode cX7_sends 0 = .ok (.iload_n 1, 1) := by decide +kernel
theorem dX7_sends_1 : decode cX7_sends 1 = .ok (.iload_n 2, 1) := by decide +kernel
theorem dX7_sends_2 : decode cX7_sends 2 = .ok (.invokestatic 52, 3) := by decide +kernel
theorem dX7_sends_5 : decode cX7_sends 5 = .ok (.istore 4, 2) := by decide +kernel
theorem dX7_sends_7 : decode cX7_sends 7 = .ok (.aload_n 0, 1) := by decide +kernel
theorem dX7_sends_8 : decode cX7_sends 8 = .ok (.getfield 22, 3) := by decide +kernel
theorem dX7_sends_11 : decode cX7_sends 11 = .ok (.iload_n 2, 1) := by decide +kernel
theorem dX7_sends_12 : decode cX7_sends 12 = .ok (.iaload, 1) := by decide +kernel
theorem dX7_sends_13 : decode cX7_sends 13 = .ok (.ifCond .ne 33, 3) := by decide +kernel
theorem dX7_sends_16 : decode cX7_sends 16 = .ok (.aload_n 0, 1) := by decide +kernel
theorem dX7_sends_17 : decode cX7_sends 17 = .ok (.getfield 13, 3) := by decide +kernel
theorem dX7_sends_20 : decode cX7_sends 20 = .ok (.iload 4, 2) := by decide +kernel
theorem dX7_sends_22 : decode cX7_sends 22 = .ok (.iconst 2, 1) := by decide +kernel
theorem dX7_sends_23 : decode cX7_sends 23 = .ok (.iadd, 1) := by decide +kernel
theorem dX7_sends_24 : decode cX7_sends 24 = .ok (.dup2, 1) := by decide +kernel
theorem dX7_sends_25 : decode cX7_sends 25 = .ok (.iaload, 1) := by decide +kernel
theorem dX7_sends_26 : decode cX7_sends 26 = .ok (.aload_n 0, 1) := by decide +kernel
theorem dX7_sends_27 : decode cX7_sends 27 = .ok (.iload_n 1, 1) := by decide +kernel
theorem dX7_sends_28 : decode cX7_sends 28 = .ok (.iload_n 2, 1) := by decide +kernel
theorem dX7_sends_29 : decode cX7_sends 29 = .ok (.iload_n 3, 1) := by decide +kernel
theorem dX7_sends_30 : decode cX7_sends 30 = .ok (.invokevirtual 147, 3) := by decide +kernel
theorem dX7_sends_33 : decode cX7_sends 33 = .ok (.ifCond .eq 7, 3) := by decide +kernel
theorem dX7_sends_36 : decode cX7_sends 36 = .ok (.iconst 1, 1) := by decide +kernel
theorem dX7_sends_37 : decode cX7_sends 37 = .ok (.goto 4, 3) := by decide +kernel
theorem dX7_sends_40 : decode cX7_sends 40 = .ok (.iconst 0, 1) := by decide +kernel
theorem dX7_sends_41 : decode cX7_sends 41 = .ok (.isub, 1) := by decide +kernel
theorem dX7_sends_42 : decode cX7_sends 42 = .ok (.iastore, 1) := by decide +kernel
theorem dX7_sends_43 : decode cX7_sends 43 = .ok (.goto 135, 3) := by decide +kernel
theorem dX7_sends_46 : decode cX7_sends 46 = .ok (.aload_n 0, 1) := by decide +kernel
theorem dX7_sends_47 : decode cX7_sends 47 = .ok (.getfield 22, 3) := by decide +kernel
theorem dX7_sends_50 : decode cX7_sends 50 = .ok (.iload_n 2, 1) := by decide +kernel
theorem dX7_sends_51 : decode cX7_sends 51 = .ok (.iaload, 1) := by decide +kernel
theorem dX7_sends_52 : decode cX7_sends 52 = .ok (.iconst 1, 1) := by decide +kernel
theorem dX7_sends_53 : decode cX7_sends 53 = .ok (.if_icmp .ne 30, 3) := by decide +kernel
theorem dX7_sends_56 : decode cX7_sends 56 = .ok (.aload_n 0, 1) := by decide +kernel
theorem dX7_sends_57 : decode cX7_sends 57 = .ok (.getfield 13, 3) := by decide +kernel
theorem dX7_sends_60 : decode cX7_sends 60 = .ok (.iload 4, 2) := by decide +kernel
theorem dX7_sends_62 : decode cX7_sends 62 = .ok (.bipush 26, 2) := by decide +kernel
theorem dX7_sends_64 : decode cX7_sends 64 = .ok (.iadd, 1) := by decide +kernel
theorem dX7_sends_65 : decode cX7_sends 65 = .ok (.iconst 1, 1) := by decide +kernel
theorem dX7_sends_66 : decode cX7_sends 66 = .ok (.iastore, 1) := by decide +kernel
theorem dX7_sends_67 : decode cX7_sends 67 = .ok (.aload_n 0, 1) := by decide +kernel
theorem dX7_sends_68 : decode cX7_sends 68 = .ok (.getfield 13, 3) := by decide +kernel
theorem dX7_sends_71 : decode cX7_sends 71 = .ok (.iload 4, 2) := by decide +kernel
theorem dX7_sends_73 : decode cX7_sends 73 = .ok (.bipush 27, 2) := by decide +kernel
theorem dX7_sends_75 : decode cX7_sends 75 = .ok (.iadd, 1) := by decide +kernel
theorem dX7_sends_76 : decode cX7_sends 76 = .ok (.iload_n 3, 1) := by decide +kernel
theorem dX7_sends_77 : decode cX7_sends 77 = .ok (.iconst 1, 1) := by decide +kernel
theorem dX7_sends_78 : decode cX7_sends 78 = .ok (.iadd, 1) := by decide +kernel
theorem dX7_sends_79 : decode cX7_sends 79 = .ok (.iastore, 1) := by decide +kernel
theorem dX7_sends_80 : decode cX7_sends 80 = .ok (.goto 98, 3) := by decide +kernel
theorem dX7_sends_83 : decode cX7_sends 83 = .ok (.aload_n 0, 1) := by decide +kernel
theorem dX7_sends_84 : decode cX7_sends 84 = .ok (.getfield 22, 3) := by decide +kernel
theorem dX7_sends_87 : decode cX7_sends 87 = .ok (.iload_n 2, 1) := by decide +kernel
theorem dX7_sends_88 : decode cX7_sends 88 = .ok (.iaload, 1) := by decide +kernel
theorem dX7_sends_89 : decode cX7_sends 89 = .ok (.iconst 3, 1) := by decide +kernel
theorem dX7_sends_90 : decode cX7_sends 90 = .ok (.if_icmp .ne 88, 3) := by decide +kernel
theorem dX7_sends_93 : decode cX7_sends 93 = .ok (.aload_n 0, 1) := by decide +kernel
theorem dX7_sends_94 : decode cX7_sends 94 = .ok (.getfield 13, 3) := by decide +kernel
theorem dX7_sends_97 : decode cX7_sends 97 = .ok (.iload 4, 2) := by decide +kernel
theorem dX7_sends_99 : decode cX7_sends 99 = .ok (.bipush 28, 2) := by decide +kernel
theorem dX7_sends_101 : decode cX7_sends 101 = .ok (.iadd, 1) := by decide +kernel
theorem dX7_sends_102 : decode cX7_sends 102 = .ok (.dup2, 1) := by decide +kernel
theorem dX7_sends_103 : decode cX7_sends 103 = .ok (.iaload, 1) := by decide +kernel
theorem dX7_sends_104 : decode cX7_sends 104 = .ok (.iconst 1, 1) := by decide +kernel
theorem dX7_sends_105 : decode cX7_sends 105 = .ok (.iadd, 1) := by decide +kernel
theorem dX7_sends_106 : decode cX7_sends 106 = .ok (.iastore, 1) := by decide +kernel
theorem dX7_sends_107 : decode cX7_sends 107 = .ok (.aload_n 0, 1) := by decide +kernel
theorem dX7_sends_108 : decode cX7_sends 108 = .ok (.getfield 13, 3) := by decide +kernel
theorem dX7_sends_111 : decode cX7_sends 111 = .ok (.iload 4, 2) := by decide +kernel
theorem dX7_sends_113 : decode cX7_sends 113 = .ok (.bipush 29, 2) := by decide +kernel
theorem dX7_sends_115 : decode cX7_sends 115 = .ok (.iadd, 1) := by decide +kernel
theorem dX7_sends_116 : decode cX7_sends 116 = .ok (.aload_n 0, 1) := by decide +kernel
theorem dX7_sends_117 : decode cX7_sends 117 = .ok (.getfield 13, 3) := by decide +kernel
theorem dX7_sends_120 : decode cX7_sends 120 = .ok (.iload 4, 2) := by decide +kernel
theorem dX7_sends_122 : decode cX7_sends 122 = .ok (.bipush 28, 2) := by decide +kernel
theorem dX7_sends_124 : decode cX7_sends 124 = .ok (.iadd, 1) := by decide +kernel
theorem dX7_sends_125 : decode cX7_sends 125 = .ok (.iaload, 1) := by decide +kernel
theorem dX7_sends_126 : decode cX7_sends 126 = .ok (.aload_n 0, 1) := by decide +kernel
theorem dX7_sends_127 : decode cX7_sends 127 = .ok (.getfield 28, 3) := by decide +kernel
theorem dX7_sends_130 : decode cX7_sends 130 = .ok (.iload_n 2, 1) := by decide +kernel
theorem dX7_sends_131 : decode cX7_sends 131 = .ok (.iaload, 1) := by decide +kernel
theorem dX7_sends_132 : decode cX7_sends 132 = .ok (.if_icmp .ge 7, 3) := by decide +kernel
theorem dX7_sends_135 : decode cX7_sends 135 = .ok (.iconst 1, 1) := by decide +kernel
theorem dX7_sends_136 : decode cX7_sends 136 = .ok (.goto 4, 3) := by decide +kernel
theorem dX7_sends_139 : decode cX7_sends 139 = .ok (.iconst 0, 1) := by decide +kernel
theorem dX7_sends_140 : decode cX7_sends 140 = .ok (.iastore, 1) := by decide +kernel
theorem dX7_sends_141 : decode cX7_sends 141 = .ok (.aload_n 0, 1) := by decide +kernel
theorem dX7_sends_142 : decode cX7_sends 142 = .ok (.getfield 13, 3) := by decide +kernel
theorem dX7_sends_145 : decode cX7_sends 145 = .ok (.iload 4, 2) := by decide +kernel
theorem dX7_sends_147 : decode cX7_sends 147 = .ok (.bipush 29, 2) := by decide +kernel
theorem dX7_sends_149 : decode cX7_sends 149 = .ok (.iadd, 1) := by decide +kernel
theorem dX7_sends_150 : decode cX7_sends 150 = .ok (.iaload, 1) := by decide +kernel
theorem dX7_sends_151 : decode cX7_sends 151 = .ok (.ifCond .ne 27, 3) := by decide +kernel
theorem dX7_sends_154 : decode cX7_sends 154 = .ok (.aload_n 0, 1) := by decide +kernel
theorem dX7_sends_155 : decode cX7_sends 155 = .ok (.getfield 13, 3) := by decide +kernel
theorem dX7_sends_158 : decode cX7_sends 158 = .ok (.iload 4, 2) := by decide +kernel
theorem dX7_sends_160 : decode cX7_sends 160 = .ok (.bipush 26, 2) := by decide +kernel
theorem dX7_sends_162 : decode cX7_sends 162 = .ok (.iadd, 1) := by decide +kernel
theorem dX7_sends_163 : decode cX7_sends 163 = .ok (.iconst 2, 1) := by decide +kernel
theorem dX7_sends_164 : decode cX7_sends 164 = .ok (.iastore, 1) := by decide +kernel
theorem dX7_sends_165 : decode cX7_sends 165 = .ok (.aload_n 0, 1) := by decide +kernel
theorem dX7_sends_166 : decode cX7_sends 166 = .ok (.getfield 13, 3) := by decide +kernel
theorem dX7_sends_169 : decode cX7_sends 169 = .ok (.iload 4, 2) := by decide +kernel
theorem dX7_sends_171 : decode cX7_sends 171 = .ok (.bipush 27, 2) := by decide +kernel
theorem dX7_sends_173 : decode cX7_sends 173 = .ok (.iadd, 1) := by decide +kernel
theorem dX7_sends_174 : decode cX7_sends 174 = .ok (.iload_n 3, 1) := by decide +kernel
theorem dX7_sends_175 : decode cX7_sends 175 = .ok (.iconst 1, 1) := by decide +kernel
theorem dX7_sends_176 : decode cX7_sends 176 = .ok (.iadd, 1) := by decide +kernel
theorem dX7_sends_177 : decode cX7_sends 177 = .ok (.iastore, 1) := by decide +kernel
theorem dX7_sends_178 : decode cX7_sends 178 = .ok (.return_, 1) := by decide +kernel
theorem dX7_takesOwn_0 : decode cX7_takesOwn 0 = .ok (.iload_n 1, 1) := by decide +kernel
theorem dX7_takesOwn_1 : decode cX7_takesOwn 1 = .ok (.iload_n 2, 1) := by decide +kernel
theorem dX7_takesOwn_2 : decode cX7_takesOwn 2 = .ok (.invokestatic 52, 3) := by decide +kernel
theorem dX7_takesOwn_5 : decode cX7_takesOwn 5 = .ok (.istore 5, 2) := by decide +kernel
theorem dX7_takesOwn_7 : decode cX7_takesOwn 7 = .ok (.aload_n 0, 1) := by decide +kernel
theorem dX7_takesOwn_8 : decode cX7_takesOwn 8 = .ok (.getfield 13, 3) := by decide +kernel
theorem dX7_takesOwn_11 : decode cX7_takesOwn 11 = .ok (.iload 5, 2) := by decide +kernel
theorem dX7_takesOwn_13 : decode cX7_takesOwn 13 = .ok (.bipush 27, 2) := by decide +kernel
theorem dX7_takesOwn_15 : decode cX7_takesOwn 15 = .ok (.iadd, 1) := by decide +kernel
theorem dX7_takesOwn_16 : decode cX7_takesOwn 16 = .ok (.iaload, 1) := by decide +kernel
theorem dX7_takesOwn_17 : decode cX7_takesOwn 17 = .ok (.iload 4, 2) := by decide +kernel
theorem dX7_takesOwn_19 : decode cX7_takesOwn 19 = .ok (.if_icmp .ne 7, 3) := by decide +kernel
theorem dX7_takesOwn_22 : decode cX7_takesOwn 22 = .ok (.iconst 1, 1) := by decide +kernel
theorem dX7_takesOwn_23 : decode cX7_takesOwn 23 = .ok (.goto 4, 3) := by decide +kernel
theorem dX7_takesOwn_26 : decode cX7_takesOwn 26 = .ok (.iconst 0, 1) := by decide +kernel
theorem dX7_takesOwn_27 : decode cX7_takesOwn 27 = .ok (.istore 6, 2) := by decide +kernel
theorem dX7_takesOwn_29 : decode cX7_takesOwn 29 = .ok (.aload_n 0, 1) := by decide +kernel
theorem dX7_takesOwn_30 : decode cX7_takesOwn 30 = .ok (.getfield 22, 3) := by decide +kernel
theorem dX7_takesOwn_33 : decode cX7_takesOwn 33 = .ok (.iload_n 3, 1) := by decide +kernel
theorem dX7_takesOwn_34 : decode cX7_takesOwn 34 = .ok (.iaload, 1) := by decide +kernel
theorem dX7_takesOwn_35 : decode cX7_takesOwn 35 = .ok (.iconst 1, 1) := by decide +kernel
theorem dX7_takesOwn_36 : decode cX7_takesOwn 36 = .ok (.if_icmp .ne 62, 3) := by decide +kernel
theorem dX7_takesOwn_39 : decode cX7_takesOwn 39 = .ok (.iload 4, 2) := by decide +kernel
theorem dX7_takesOwn_41 : decode cX7_takesOwn 41 = .ok (.aload_n 0, 1) := by decide +kernel
theorem dX7_takesOwn_42 : decode cX7_takesOwn 42 = .ok (.getfield 13, 3) := by decide +kernel
theorem dX7_takesOwn_45 : decode cX7_takesOwn 45 = .ok (.iload 5, 2) := by decide +kernel
theorem dX7_takesOwn_47 : decode cX7_takesOwn 47 = .ok (.iconst 3, 1) := by decide +kernel
theorem dX7_takesOwn_48 : decode cX7_takesOwn 48 = .ok (.iadd, 1) := by decide +kernel
theorem dX7_takesOwn_49 : decode cX7_takesOwn 49 = .ok (.iaload, 1) := by decide +kernel
theorem dX7_takesOwn_50 : decode cX7_takesOwn 50 = .ok (.if_icmp .le 48, 3) := by decide +kernel
theorem dX7_takesOwn_53 : decode cX7_takesOwn 53 = .ok (.aload_n 0, 1) := by decide +kernel
theorem dX7_takesOwn_54 : decode cX7_takesOwn 54 = .ok (.getfield 13, 3) := by decide +kernel
theorem dX7_takesOwn_57 : decode cX7_takesOwn 57 = .ok (.iload 5, 2) := by decide +kernel
theorem dX7_takesOwn_59 : decode cX7_takesOwn 59 = .ok (.bipush 21, 2) := by decide +kernel
theorem dX7_takesOwn_61 : decode cX7_takesOwn 61 = .ok (.iadd, 1) := by decide +kernel
theorem dX7_takesOwn_62 : decode cX7_takesOwn 62 = .ok (.iload 4, 2) := by decide +kernel
theorem dX7_takesOwn_64 : decode cX7_takesOwn 64 = .ok (.iconst 1, 1) := by decide +kernel
theorem dX7_takesOwn_65 : decode cX7_takesOwn 65 = .ok (.iadd, 1) := by decide +kernel
theorem dX7_takesOwn_66 : decode cX7_takesOwn 66 = .ok (.iastore, 1) := by decide +kernel
theorem dX7_takesOwn_67 : decode cX7_takesOwn 67 = .ok (.aload_n 0, 1) := by decide +kernel
theorem dX7_takesOwn_68 : decode cX7_takesOwn 68 = .ok (.getfield 13, 3) := by decide +kernel
theorem dX7_takesOwn_71 : decode cX7_takesOwn 71 = .ok (.iload 5, 2) := by decide +kernel
theorem dX7_takesOwn_73 : decode cX7_takesOwn 73 = .ok (.bipush 21, 2) := by decide +kernel
theorem dX7_takesOwn_75 : decode cX7_takesOwn 75 = .ok (.iadd, 1) := by decide +kernel
theorem dX7_takesOwn_76 : decode cX7_takesOwn 76 = .ok (.iconst 1, 1) := by decide +kernel
theorem dX7_takesOwn_77 : decode cX7_takesOwn 77 = .ok (.iadd, 1) := by decide +kernel
theorem dX7_takesOwn_78 : decode cX7_takesOwn 78 = .ok (.iload_n 3, 1) := by decide +kernel
theorem dX7_takesOwn_79 : decode cX7_takesOwn 79 = .ok (.iastore, 1) := by decide +kernel
theorem dX7_takesOwn_80 : decode cX7_takesOwn 80 = .ok (.aload_n 0, 1) := by decide +kernel
theorem dX7_takesOwn_81 : decode cX7_takesOwn 81 = .ok (.getfield 13, 3) := by decide +kernel
theorem dX7_takesOwn_84 : decode cX7_takesOwn 84 = .ok (.iload 5, 2) := by decide +kernel
theorem dX7_takesOwn_86 : decode cX7_takesOwn 86 = .ok (.bipush 21, 2) := by decide +kernel
theorem dX7_takesOwn_88 : decode cX7_takesOwn 88 = .ok (.iadd, 1) := by decide +kernel
theorem dX7_takesOwn_89 : decode cX7_takesOwn 89 = .ok (.iconst 2, 1) := by decide +kernel
theorem dX7_takesOwn_90 : decode cX7_takesOwn 90 = .ok (.iadd, 1) := by decide +kernel
theorem dX7_takesOwn_91 : decode cX7_takesOwn 91 = .ok (.aload_n 0, 1) := by decide +kernel
theorem dX7_takesOwn_92 : decode cX7_takesOwn 92 = .ok (.getfield 28, 3) := by decide +kernel
theorem dX7_takesOwn_95 : decode cX7_takesOwn 95 = .ok (.iload_n 3, 1) := by decide +kernel
theorem dX7_takesOwn_96 : decode cX7_takesOwn 96 = .ok (.iaload, 1) := by decide +kernel
theorem dX7_takesOwn_97 : decode cX7_takesOwn 97 = .ok (.iastore, 1) := by decide +kernel
theorem dX7_takesOwn_98 : decode cX7_takesOwn 98 = .ok (.aload_n 0, 1) := by decide +kernel
theorem dX7_takesOwn_99 : decode cX7_takesOwn 99 = .ok (.getfield 22, 3) := by decide +kernel
theorem dX7_takesOwn_102 : decode cX7_takesOwn 102 = .ok (.iload_n 3, 1) := by decide +kernel
theorem dX7_takesOwn_103 : decode cX7_takesOwn 103 = .ok (.iaload, 1) := by decide +kernel
theorem dX7_takesOwn_104 : decode cX7_takesOwn 104 = .ok (.iconst 2, 1) := by decide +kernel
theorem dX7_takesOwn_105 : decode cX7_takesOwn 105 = .ok (.if_icmp .ne 46, 3) := by decide +kernel
theorem dX7_takesOwn_108 : decode cX7_takesOwn 108 = .ok (.iload 6, 2) := by decide +kernel
theorem dX7_takesOwn_110 : decode cX7_takesOwn 110 = .ok (.ifCond .eq 41, 3) := by decide +kernel
theorem dX7_takesOwn_113 : decode cX7_takesOwn 113 = .ok (.aload_n 0, 1) := by decide +kernel
theorem dX7_takesOwn_114 : decode cX7_takesOwn 114 = .ok (.getfield 13, 3) := by decide +kernel
theorem dX7_takesOwn_117 : decode cX7_takesOwn 117 = .ok (.iload 5, 2) := by decide +kernel
theorem dX7_takesOwn_119 : decode cX7_takesOwn 119 = .ok (.bipush 26, 2) := by decide +kernel
theorem dX7_takesOwn_121 : decode cX7_takesOwn 121 = .ok (.iadd, 1) := by decide +kernel
theorem dX7_takesOwn_122 : decode cX7_takesOwn 122 = .ok (.iaload, 1) := by decide +kernel
theorem dX7_takesOwn_123 : decode cX7_takesOwn 123 = .ok (.iconst 1, 1) := by decide +kernel
theorem dX7_takesOwn_124 : decode cX7_takesOwn 124 = .ok (.if_icmp .ne 27, 3) := by decide +kernel
theorem dX7_takesOwn_127 : decode cX7_takesOwn 127 = .ok (.aload_n 0, 1) := by decide +kernel
theorem dX7_takesOwn_128 : decode cX7_takesOwn 128 = .ok (.getfield 13, 3) := by decide +kernel
theorem dX7_takesOwn_131 : decode cX7_takesOwn 131 = .ok (.iload 5, 2) := by decide +kernel
theorem dX7_takesOwn_133 : decode cX7_takesOwn 133 = .ok (.bipush 26, 2) := by decide +kernel
theorem dX7_takesOwn_135 : decode cX7_takesOwn 135 = .ok (.iadd, 1) := by decide +kernel
theorem dX7_takesOwn_136 : decode cX7_takesOwn 136 = .ok (.iconst 0, 1) := by decide +kernel
theorem dX7_takesOwn_137 : decode cX7_takesOwn 137 = .ok (.iastore, 1) := by decide +kernel
theorem dX7_takesOwn_138 : decode cX7_takesOwn 138 = .ok (.aload_n 0, 1) := by decide +kernel
theorem dX7_takesOwn_139 : decode cX7_takesOwn 139 = .ok (.getfield 13, 3) := by decide +kernel
theorem dX7_takesOwn_142 : decode cX7_takesOwn 142 = .ok (.iload 5, 2) := by decide +kernel
theorem dX7_takesOwn_144 : decode cX7_takesOwn 144 = .ok (.bipush 29, 2) := by decide +kernel
theorem dX7_takesOwn_146 : decode cX7_takesOwn 146 = .ok (.iadd, 1) := by decide +kernel
theorem dX7_takesOwn_147 : decode cX7_takesOwn 147 = .ok (.iconst 1, 1) := by decide +kernel
theorem dX7_takesOwn_148 : decode cX7_takesOwn 148 = .ok (.iastore, 1) := by decide +kernel
theorem dX7_takesOwn_149 : decode cX7_takesOwn 149 = .ok (.iconst 1, 1) := by decide +kernel
theorem dX7_takesOwn_150 : decode cX7_takesOwn 150 = .ok (.ireturn, 1) := by decide +kernel
theorem dX7_takesOwn_151 : decode cX7_takesOwn 151 = .ok (.aload_n 0, 1) := by decide +kernel
theorem dX7_takesOwn_152 : decode cX7_takesOwn 152 = .ok (.getfield 22, 3) := by decide +kernel
theorem dX7_takesOwn_155 : decode cX7_takesOwn 155 = .ok (.iload_n 3, 1) := by decide +kernel
theorem dX7_takesOwn_156 : decode cX7_takesOwn 156 = .ok (.iaload, 1) := by decide +kernel
theorem dX7_takesOwn_157 : decode cX7_takesOwn 157 = .ok (.iconst 3, 1) := by decide +kernel
theorem dX7_takesOwn_158 : decode cX7_takesOwn 158 = .ok (.if_icmp .ne 168, 3) := by decide +kernel
theorem dX7_takesOwn_161 : decode cX7_takesOwn 161 = .ok (.aload_n 0, 1) := by decide +kernel
theorem dX7_takesOwn_162 : decode cX7_takesOwn 162 = .ok (.getfield 31, 3) := by decide +kernel
theorem dX7_takesOwn_165 : decode cX7_takesOwn 165 = .ok (.iload_n 3, 1) := by decide +kernel
theorem dX7_takesOwn_166 : decode cX7_takesOwn 166 = .ok (.iaload, 1) := by decide +kernel
theorem dX7_takesOwn_167 : decode cX7_takesOwn 167 = .ok (.ifCond .eq 53, 3) := by decide +kernel
theorem dX7_takesOwn_170 : decode cX7_takesOwn 170 = .ok (.aload_n 0, 1) := by decide +kernel
theorem dX7_takesOwn_171 : decode cX7_takesOwn 171 = .ok (.getfield 13, 3) := by decide +kernel
theorem dX7_takesOwn_174 : decode cX7_takesOwn 174 = .ok (.iload 5, 2) := by decide +kernel
theorem dX7_takesOwn_176 : decode cX7_takesOwn 176 = .ok (.bipush 30, 2) := by decide +kernel
theorem dX7_takesOwn_178 : decode cX7_takesOwn 178 = .ok (.iadd, 1) := by decide +kernel
theorem dX7_takesOwn_179 : decode cX7_takesOwn 179 = .ok (.iaload, 1) := by decide +kernel
theorem dX7_takesOwn_180 : decode cX7_takesOwn 180 = .ok (.iload_n 3, 1) := by decide +kernel
theorem dX7_takesOwn_181 : decode cX7_takesOwn 181 = .ok (.if_icmp .ne 43, 3) := by decide +kernel
theorem dX7_takesOwn_184 : decode cX7_takesOwn 184 = .ok (.aload_n 0, 1) := by decide +kernel
theorem dX7_takesOwn_185 : decode cX7_takesOwn 185 = .ok (.getfield 13, 3) := by decide +kernel
theorem dX7_takesOwn_188 : decode cX7_takesOwn 188 = .ok (.iload 5, 2) := by decide +kernel
theorem dX7_takesOwn_190 : decode cX7_takesOwn 190 = .ok (.bipush 31, 2) := by decide +kernel
theorem dX7_takesOwn_192 : decode cX7_takesOwn 192 = .ok (.iadd, 1) := by decide +kernel
theorem dX7_takesOwn_193 : decode cX7_takesOwn 193 = .ok (.iaload, 1) := by decide +kernel
theorem dX7_takesOwn_194 : decode cX7_takesOwn 194 = .ok (.aload_n 0, 1) := by decide +kernel
theorem dX7_takesOwn_195 : decode cX7_takesOwn 195 = .ok (.getfield 31, 3) := by decide +kernel
theorem dX7_takesOwn_198 : decode cX7_takesOwn 198 = .ok (.iload_n 3, 1) := by decide +kernel
theorem dX7_takesOwn_199 : decode cX7_takesOwn 199 = .ok (.iaload, 1) := by decide +kernel
theorem dX7_takesOwn_200 : decode cX7_takesOwn 200 = .ok (.if_icmp .ne 24, 3) := by decide +kernel
theorem dX7_takesOwn_203 : decode cX7_takesOwn 203 = .ok (.aload_n 0, 1) := by decide +kernel
theorem dX7_takesOwn_204 : decode cX7_takesOwn 204 = .ok (.getfield 13, 3) := by decide +kernel
theorem dX7_takesOwn_207 : decode cX7_takesOwn 207 = .ok (.iload 5, 2) := by decide +kernel
theorem dX7_takesOwn_209 : decode cX7_takesOwn 209 = .ok (.bipush 32, 2) := by decide +kernel
theorem dX7_takesOwn_211 : decode cX7_takesOwn 211 = .ok (.iadd, 1) := by decide +kernel
theorem dX7_takesOwn_212 : decode cX7_takesOwn 212 = .ok (.iaload, 1) := by decide +kernel
theorem dX7_takesOwn_213 : decode cX7_takesOwn 213 = .ok (.iload 4, 2) := by decide +kernel
theorem dX7_takesOwn_215 : decode cX7_takesOwn 215 = .ok (.iconst 1, 1) := by decide +kernel
theorem dX7_takesOwn_216 : decode cX7_takesOwn 216 = .ok (.isub, 1) := by decide +kernel
theorem dX7_takesOwn_217 : decode cX7_takesOwn 217 = .ok (.if_icmp .ne 7, 3) := by decide +kernel
theorem dX7_takesOwn_220 : decode cX7_takesOwn 220 = .ok (.iconst 1, 1) := by decide +kernel
theorem dX7_takesOwn_221 : decode cX7_takesOwn 221 = .ok (.goto 4, 3) := by decide +kernel
theorem dX7_takesOwn_224 : decode cX7_takesOwn 224 = .ok (.iconst 0, 1) := by decide +kernel
theorem dX7_takesOwn_225 : decode cX7_takesOwn 225 = .ok (.istore 7, 2) := by decide +kernel
theorem dX7_takesOwn_227 : decode cX7_takesOwn 227 = .ok (.aload_n 0, 1) := by decide +kernel
theorem dX7_takesOwn_228 : decode cX7_takesOwn 228 = .ok (.getfield 13, 3) := by decide +kernel
theorem dX7_takesOwn_231 : decode cX7_takesOwn 231 = .ok (.iload 5, 2) := by decide +kernel
theorem dX7_takesOwn_233 : decode cX7_takesOwn 233 = .ok (.bipush 31, 2) := by decide +kernel
theorem dX7_takesOwn_235 : decode cX7_takesOwn 235 = .ok (.iadd, 1) := by decide +kernel
theorem dX7_takesOwn_236 : decode cX7_takesOwn 236 = .ok (.iload 7, 2) := by decide +kernel
theorem dX7_takesOwn_238 : decode cX7_takesOwn 238 = .ok (.ifCond .eq 14, 3) := by decide +kernel
theorem dX7_takesOwn_241 : decode cX7_takesOwn 241 = .ok (.aload_n 0, 1) := by decide +kernel
theorem dX7_takesOwn_242 : decode cX7_takesOwn 242 = .ok (.getfield 31, 3) := by decide +kernel
theorem dX7_takesOwn_245 : decode cX7_takesOwn 245 = .ok (.iload_n 3, 1) := by decide +kernel
theorem dX7_takesOwn_246 : decode cX7_takesOwn 246 = .ok (.iaload, 1) := by decide +kernel
theorem dX7_takesOwn_247 : decode cX7_takesOwn 247 = .ok (.iconst 1, 1) := by decide +kernel
theorem dX7_takesOwn_248 : decode cX7_takesOwn 248 = .ok (.iadd, 1) := by decide +kernel
theorem dX7_takesOwn_249 : decode cX7_takesOwn 249 = .ok (.goto 4, 3) := by decide +kernel
theorem dX7_takesOwn_252 : decode cX7_takesOwn 252 = .ok (.iconst 0, 1) := by decide +kernel
theorem dX7_takesOwn_253 : decode cX7_takesOwn 253 = .ok (.iastore, 1) := by decide +kernel
theorem dX7_takesOwn_254 : decode cX7_takesOwn 254 = .ok (.aload_n 0, 1) := by decide +kernel
theorem dX7_takesOwn_255 : decode cX7_takesOwn 255 = .ok (.getfield 13, 3) := by decide +kernel
theorem dX7_takesOwn_258 : decode cX7_takesOwn 258 = .ok (.iload 5, 2) := by decide +kernel
theorem dX7_takesOwn_260 : decode cX7_takesOwn 260 = .ok (.bipush 30, 2) := by decide +kernel
theorem dX7_takesOwn_262 : decode cX7_takesOwn 262 = .ok (.iadd, 1) := by decide +kernel
theorem dX7_takesOwn_263 : decode cX7_takesOwn 263 = .ok (.iload_n 3, 1) := by decide +kernel
theorem dX7_takesOwn_264 : decode cX7_takesOwn 264 = .ok (.iastore, 1) := by decide +kernel
theorem dX7_takesOwn_265 : decode cX7_takesOwn 265 = .ok (.aload_n 0, 1) := by decide +kernel
theorem dX7_takesOwn_266 : decode cX7_takesOwn 266 = .ok (.getfield 13, 3) := by decide +kernel
theorem dX7_takesOwn_269 : decode cX7_takesOwn 269 = .ok (.iload 5, 2) := by decide +kernel
theorem dX7_takesOwn_271 : decode cX7_takesOwn 271 = .ok (.bipush 32, 2) := by decide +kernel
theorem dX7_takesOwn_273 : decode cX7_takesOwn 273 = .ok (.iadd, 1) := by decide +kernel
theorem dX7_takesOwn_274 : decode cX7_takesOwn 274 = .ok (.iload 4, 2) := by decide +kernel
theorem dX7_takesOwn_276 : decode cX7_takesOwn 276 = .ok (.iastore, 1) := by decide +kernel
theorem dX7_takesOwn_277 : decode cX7_takesOwn 277 = .ok (.iload 7, 2) := by decide +kernel
theorem dX7_takesOwn_279 : decode cX7_takesOwn 279 = .ok (.ifCond .eq 47, 3) := by decide +kernel
theorem dX7_takesOwn_282 : decode cX7_takesOwn 282 = .ok (.aload_n 0, 1) := by decide +kernel
theorem dX7_takesOwn_283 : decode cX7_takesOwn 283 = .ok (.getfield 31, 3) := by decide +kernel
theorem dX7_takesOwn_286 : decode cX7_takesOwn 286 = .ok (.iload_n 3, 1) := by decide +kernel
theorem dX7_takesOwn_287 : decode cX7_takesOwn 287 = .ok (.iaload, 1) := by decide +kernel
theorem dX7_takesOwn_288 : decode cX7_takesOwn 288 = .ok (.iconst 1, 1) := by decide +kernel
theorem dX7_takesOwn_289 : decode cX7_takesOwn 289 = .ok (.iadd, 1) := by decide +kernel
theorem dX7_takesOwn_290 : decode cX7_takesOwn 290 = .ok (.aload_n 0, 1) := by decide +kernel
theorem dX7_takesOwn_291 : decode cX7_takesOwn 291 = .ok (.getfield 28, 3) := by decide +kernel
theorem dX7_takesOwn_294 : decode cX7_takesOwn 294 = .ok (.iload_n 3, 1) := by decide +kernel
theorem dX7_takesOwn_295 : decode cX7_takesOwn 295 = .ok (.iaload, 1) := by decide +kernel
theorem dX7_takesOwn_296 : decode cX7_takesOwn 296 = .ok (.if_icmp .ne 30, 3) := by decide +kernel
theorem dX7_takesOwn_299 : decode cX7_takesOwn 299 = .ok (.aload_n 0, 1) := by decide +kernel
theorem dX7_takesOwn_300 : decode cX7_takesOwn 300 = .ok (.getfield 13, 3) := by decide +kernel
theorem dX7_takesOwn_303 : decode cX7_takesOwn 303 = .ok (.iload 5, 2) := by decide +kernel
theorem dX7_takesOwn_305 : decode cX7_takesOwn 305 = .ok (.bipush 24, 2) := by decide +kernel
theorem dX7_takesOwn_307 : decode cX7_takesOwn 307 = .ok (.iadd, 1) := by decide +kernel
theorem dX7_takesOwn_308 : decode cX7_takesOwn 308 = .ok (.iload 4, 2) := by decide +kernel
theorem dX7_takesOwn_310 : decode cX7_takesOwn 310 = .ok (.iconst 1, 1) := by decide +kernel
theorem dX7_takesOwn_311 : decode cX7_takesOwn 311 = .ok (.iadd, 1) := by decide +kernel
theorem dX7_takesOwn_312 : decode cX7_takesOwn 312 = .ok (.iastore, 1) := by decide +kernel
theorem dX7_takesOwn_313 : decode cX7_takesOwn 313 = .ok (.aload_n 0, 1) := by decide +kernel
theorem dX7_takesOwn_314 : decode cX7_takesOwn 314 = .ok (.getfield 13, 3) := by decide +kernel
theorem dX7_takesOwn_317 : decode cX7_takesOwn 317 = .ok (.iload 5, 2) := by decide +kernel
theorem dX7_takesOwn_319 : decode cX7_takesOwn 319 = .ok (.bipush 24, 2) := by decide +kernel
theorem dX7_takesOwn_321 : decode cX7_takesOwn 321 = .ok (.iadd, 1) := by decide +kernel
theorem dX7_takesOwn_322 : decode cX7_takesOwn 322 = .ok (.iconst 1, 1) := by decide +kernel
theorem dX7_takesOwn_323 : decode cX7_takesOwn 323 = .ok (.iadd, 1) := by decide +kernel
theorem dX7_takesOwn_324 : decode cX7_takesOwn 324 = .ok (.iload_n 3, 1) := by decide +kernel
theorem dX7_takesOwn_325 : decode cX7_takesOwn 325 = .ok (.iastore, 1) := by decide +kernel
theorem dX7_takesOwn_326 : decode cX7_takesOwn 326 = .ok (.aload_n 0, 1) := by decide +kernel
theorem dX7_takesOwn_327 : decode cX7_takesOwn 327 = .ok (.getfield 22, 3) := by decide +kernel
theorem dX7_takesOwn_330 : decode cX7_takesOwn 330 = .ok (.iload_n 3, 1) := by decide +kernel
theorem dX7_takesOwn_331 : decode cX7_takesOwn 331 = .ok (.iaload, 1) := by decide +kernel
theorem dX7_takesOwn_332 : decode cX7_takesOwn 332 = .ok (.iconst 4, 1) := by decide +kernel
theorem dX7_takesOwn_333 : decode cX7_takesOwn 333 = .ok (.if_icmp .ne 30, 3) := by decide +kernel
theorem dX7_takesOwn_336 : decode cX7_takesOwn 336 = .ok (.iload 6, 2) := by decide +kernel
theorem dX7_takesOwn_338 : decode cX7_takesOwn 338 = .ok (.ifCond .eq 25, 3) := by decide +kernel
theorem dX7_takesOwn_341 : decode cX7_takesOwn 341 = .ok (.aload_n 0, 1) := by decide +kernel
theorem dX7_takesOwn_342 : decode cX7_takesOwn 342 = .ok (.getfield 13, 3) := by decide +kernel
theorem dX7_takesOwn_345 : decode cX7_takesOwn 345 = .ok (.iload 5, 2) := by decide +kernel
theorem dX7_takesOwn_347 : decode cX7_takesOwn 347 = .ok (.bipush 26, 2) := by decide +kernel
theorem dX7_takesOwn_349 : decode cX7_takesOwn 349 = .ok (.iadd, 1) := by decide +kernel
theorem dX7_takesOwn_350 : decode cX7_takesOwn 350 = .ok (.iaload, 1) := by decide +kernel
theorem dX7_takesOwn_351 : decode cX7_takesOwn 351 = .ok (.iconst 2, 1) := by decide +kernel
theorem dX7_takesOwn_352 : decode cX7_takesOwn 352 = .ok (.if_icmp .ne 11, 3) := by decide +kernel
theorem dX7_takesOwn_355 : decode cX7_takesOwn 355 = .ok (.aload_n 0, 1) := by decide +kernel
theorem dX7_takesOwn_356 : decode cX7_takesOwn 356 = .ok (.iload_n 1, 1) := by decide +kernel
theorem dX7_takesOwn_357 : decode cX7_takesOwn 357 = .ok (.iload_n 2, 1) := by decide +kernel
theorem dX7_takesOwn_358 : decode cX7_takesOwn 358 = .ok (.invokevirtual 150, 3) := by decide +kernel
theorem dX7_takesOwn_361 : decode cX7_takesOwn 361 = .ok (.iconst 1, 1) := by decide +kernel
theorem dX7_takesOwn_362 : decode cX7_takesOwn 362 = .ok (.ireturn, 1) := by decide +kernel
theorem dX7_takesOwn_363 : decode cX7_takesOwn 363 = .ok (.iconst 0, 1) := by decide +kernel
theorem dX7_takesOwn_364 : decode cX7_takesOwn 364 = .ok (.ireturn, 1) := by decide +kernel
theorem dX7_overhears_0 : decode cX7_overhears 0 = .ok (.iload_n 1, 1) := by decide +kernel
theorem dX7_overhears_1 : decode cX7_overhears 1 = .ok (.iload_n 2, 1) := by decide +kernel
theorem dX7_overhears_2 : decode cX7_overhears 2 = .ok (.invokestatic 52, 3) := by decide +kernel
theorem dX7_overhears_5 : decode cX7_overhears 5 = .ok (.istore 5, 2) := by decide +kernel
theorem dX7_overhears_7 : decode cX7_overhears 7 = .ok (.iload 4, 2) := by decide +kernel
theorem dX7_overhears_9 : decode cX7_overhears 9 = .ok (.aload_n 0, 1) := by decide +kernel
theorem dX7_overhears_10 : decode cX7_overhears 10 = .ok (.getfield 22, 3) := by decide +kernel
theorem dX7_overhears_13 : decode cX7_overhears 13 = .ok (.iload_n 3, 1) := by decide +kernel
theorem dX7_overhears_14 : decode cX7_overhears 14 = .ok (.iaload, 1) := by decide +kernel
theorem dX7_overhears_15 : decode cX7_overhears 15 = .ok (.iconst 1, 1) := by decide +kernel
theorem dX7_overhears_16 : decode cX7_overhears 16 = .ok (.if_icmp .ne 14, 3) := by decide +kernel
theorem dX7_overhears_19 : decode cX7_overhears 19 = .ok (.aload_n 0, 1) := by decide +kernel
theorem dX7_overhears_20 : decode cX7_overhears 20 = .ok (.getfield 28, 3) := by decide +kernel
theorem dX7_overhears_23 : decode cX7_overhears 23 = .ok (.iload_n 3, 1) := by decide +kernel
theorem dX7_overhears_24 : decode cX7_overhears 24 = .ok (.iaload, 1) := by decide +kernel
theorem dX7_overhears_25 : decode cX7_overhears 25 = .ok (.iconst 2, 1) := by decide +kernel
theorem dX7_overhears_26 : decode cX7_overhears 26 = .ok (.iadd, 1) := by decide +kernel
theorem dX7_overhears_27 : decode cX7_overhears 27 = .ok (.goto 51, 3) := by decide +kernel
theorem dX7_overhears_30 : decode cX7_overhears 30 = .ok (.aload_n 0, 1) := by decide +kernel
theorem dX7_overhears_31 : decode cX7_overhears 31 = .ok (.getfield 22, 3) := by decide +kernel
theorem dX7_overhears_34 : decode cX7_overhears 34 = .ok (.iload_n 3, 1) := by decide +kernel
theorem dX7_overhears_35 : decode cX7_overhears 35 = .ok (.iaload, 1) := by decide +kernel
theorem dX7_overhears_36 : decode cX7_overhears 36 = .ok (.iconst 2, 1) := by decide +kernel
theorem dX7_overhears_37 : decode cX7_overhears 37 = .ok (.if_icmp .ne 14, 3) := by decide +kernel
theorem dX7_overhears_40 : decode cX7_overhears 40 = .ok (.aload_n 0, 1) := by decide +kernel
theorem dX7_overhears_41 : decode cX7_overhears 41 = .ok (.getfield 28, 3) := by decide +kernel
theorem dX7_overhears_44 : decode cX7_overhears 44 = .ok (.iload_n 3, 1) := by decide +kernel
theorem dX7_overhears_45 : decode cX7_overhears 45 = .ok (.iaload, 1) := by decide +kernel
theorem dX7_overhears_46 : decode cX7_overhears 46 = .ok (.iconst 1, 1) := by decide +kernel
theorem dX7_overhears_47 : decode cX7_overhears 47 = .ok (.iadd, 1) := by decide +kernel
theorem dX7_overhears_48 : decode cX7_overhears 48 = .ok (.goto 30, 3) := by decide +kernel
theorem dX7_overhears_51 : decode cX7_overhears 51 = .ok (.aload_n 0, 1) := by decide +kernel
theorem dX7_overhears_52 : decode cX7_overhears 52 = .ok (.getfield 22, 3) := by decide +kernel
theorem dX7_overhears_55 : decode cX7_overhears 55 = .ok (.iload_n 3, 1) := by decide +kernel
theorem dX7_overhears_56 : decode cX7_overhears 56 = .ok (.iaload, 1) := by decide +kernel
theorem dX7_overhears_57 : decode cX7_overhears 57 = .ok (.iconst 3, 1) := by decide +kernel
theorem dX7_overhears_58 : decode cX7_overhears 58 = .ok (.if_icmp .ne 19, 3) := by decide +kernel
theorem dX7_overhears_61 : decode cX7_overhears 61 = .ok (.aload_n 0, 1) := by decide +kernel
theorem dX7_overhears_62 : decode cX7_overhears 62 = .ok (.getfield 28, 3) := by decide +kernel
theorem dX7_overhears_65 : decode cX7_overhears 65 = .ok (.iload_n 3, 1) := by decide +kernel
theorem dX7_overhears_66 : decode cX7_overhears 66 = .ok (.iaload, 1) := by decide +kernel
theorem dX7_overhears_67 : decode cX7_overhears 67 = .ok (.aload_n 0, 1) := by decide +kernel
theorem dX7_overhears_68 : decode cX7_overhears 68 = .ok (.getfield 31, 3) := by decide +kernel
theorem dX7_overhears_71 : decode cX7_overhears 71 = .ok (.iload_n 3, 1) := by decide +kernel
theorem dX7_overhears_72 : decode cX7_overhears 72 = .ok (.iaload, 1) := by decide +kernel
theorem dX7_overhears_73 : decode cX7_overhears 73 = .ok (.isub, 1) := by decide +kernel
theorem dX7_overhears_74 : decode cX7_overhears 74 = .ok (.goto 4, 3) := by decide +kernel
theorem dX7_overhears_77 : decode cX7_overhears 77 = .ok (.iconst 0, 1) := by decide +kernel
theorem dX7_overhears_78 : decode cX7_overhears 78 = .ok (.iadd, 1) := by decide +kernel
theorem dX7_overhears_79 : decode cX7_overhears 79 = .ok (.istore 6, 2) := by decide +kernel
theorem dX7_overhears_81 : decode cX7_overhears 81 = .ok (.aload_n 0, 1) := by decide +kernel
theorem dX7_overhears_82 : decode cX7_overhears 82 = .ok (.getfield 13, 3) := by decide +kernel
theorem dX7_overhears_85 : decode cX7_overhears 85 = .ok (.iload 5, 2) := by decide +kernel
theorem dX7_overhears_87 : decode cX7_overhears 87 = .ok (.iconst 3, 1) := by decide +kernel
theorem dX7_overhears_88 : decode cX7_overhears 88 = .ok (.iadd, 1) := by decide +kernel
theorem dX7_overhears_89 : decode cX7_overhears 89 = .ok (.iload 6, 2) := by decide +kernel
theorem dX7_overhears_91 : decode cX7_overhears 91 = .ok (.aload_n 0, 1) := by decide +kernel
theorem dX7_overhears_92 : decode cX7_overhears 92 = .ok (.getfield 13, 3) := by decide +kernel
theorem dX7_overhears_95 : decode cX7_overhears 95 = .ok (.iload 5, 2) := by decide +kernel
theorem dX7_overhears_97 : decode cX7_overhears 97 = .ok (.iconst 3, 1) := by decide +kernel
theorem dX7_overhears_98 : decode cX7_overhears 98 = .ok (.iadd, 1) := by decide +kernel
theorem dX7_overhears_99 : decode cX7_overhears 99 = .ok (.iaload, 1) := by decide +kernel
theorem dX7_overhears_100 : decode cX7_overhears 100 = .ok (.if_icmp .le 8, 3) := by decide +kernel
theorem dX7_overhears_103 : decode cX7_overhears 103 = .ok (.iload 6, 2) := by decide +kernel
theorem dX7_overhears_105 : decode cX7_overhears 105 = .ok (.goto 12, 3) := by decide +kernel
theorem dX7_overhears_108 : decode cX7_overhears 108 = .ok (.aload_n 0, 1) := by decide +kernel
theorem dX7_overhears_109 : decode cX7_overhears 109 = .ok (.getfield 13, 3) := by decide +kernel
theorem dX7_overhears_112 : decode cX7_overhears 112 = .ok (.iload 5, 2) := by decide +kernel
theorem dX7_overhears_114 : decode cX7_overhears 114 = .ok (.iconst 3, 1) := by decide +kernel
theorem dX7_overhears_115 : decode cX7_overhears 115 = .ok (.iadd, 1) := by decide +kernel
theorem dX7_overhears_116 : decode cX7_overhears 116 = .ok (.iaload, 1) := by decide +kernel
theorem dX7_overhears_117 : decode cX7_overhears 117 = .ok (.iastore, 1) := by decide +kernel
theorem dX7_overhears_118 : decode cX7_overhears 118 = .ok (.aload_n 0, 1) := by decide +kernel
theorem dX7_overhears_119 : decode cX7_overhears 119 = .ok (.getfield 13, 3) := by decide +kernel
theorem dX7_overhears_122 : decode cX7_overhears 122 = .ok (.iload 5, 2) := by decide +kernel
theorem dX7_overhears_124 : decode cX7_overhears 124 = .ok (.bipush 33, 2) := by decide +kernel
theorem dX7_overhears_126 : decode cX7_overhears 126 = .ok (.iadd, 1) := by decide +kernel
theorem dX7_overhears_127 : decode cX7_overhears 127 = .ok (.iaload, 1) := by decide +kernel
theorem dX7_overhears_128 : decode cX7_overhears 128 = .ok (.bipush 6, 2) := by decide +kernel
theorem dX7_overhears_130 : decode cX7_overhears 130 = .ok (.if_icmp .ne 61, 3) := by decide +kernel
theorem dX7_overhears_133 : decode cX7_overhears 133 = .ok (.iconst 1, 1) := by decide +kernel
theorem dX7_overhears_134 : decode cX7_overhears 134 = .ok (.istore 7, 2) := by decide +kernel
theorem dX7_overhears_136 : decode cX7_overhears 136 = .ok (.iload 7, 2) := by decide +kernel
theorem dX7_overhears_138 : decode cX7_overhears 138 = .ok (.bipush 21, 2) := by decide +kernel
theorem dX7_overhears_140 : decode cX7_overhears 140 = .ok (.if_icmp .ge 37, 3) := by decide +kernel
theorem dX7_overhears_143 : decode cX7_overhears 143 = .ok (.aload_n 0, 1) := by decide +kernel
theorem dX7_overhears_144 : decode cX7_overhears 144 = .ok (.getfield 13, 3) := by decide +kernel
theorem dX7_overhears_147 : decode cX7_overhears 147 = .ok (.iload 5, 2) := by decide +kernel
theorem dX7_overhears_149 : decode cX7_overhears 149 = .ok (.bipush 33, 2) := by decide +kernel
theorem dX7_overhears_151 : decode cX7_overhears 151 = .ok (.iadd, 1) := by decide +kernel
theorem dX7_overhears_152 : decode cX7_overhears 152 = .ok (.iload 7, 2) := by decide +kernel
theorem dX7_overhears_154 : decode cX7_overhears 154 = .ok (.iadd, 1) := by decide +kernel
theorem dX7_overhears_155 : decode cX7_overhears 155 = .ok (.aload_n 0, 1) := by decide +kernel
theorem dX7_overhears_156 : decode cX7_overhears 156 = .ok (.getfield 13, 3) := by decide +kernel
theorem dX7_overhears_159 : decode cX7_overhears 159 = .ok (.iload 5, 2) := by decide +kernel
theorem dX7_overhears_161 : decode cX7_overhears 161 = .ok (.bipush 33, 2) := by decide +kernel
theorem dX7_overhears_163 : decode cX7_overhears 163 = .ok (.iadd, 1) := by decide +kernel
theorem dX7_overhears_164 : decode cX7_overhears 164 = .ok (.iload 7, 2) := by decide +kernel
theorem dX7_overhears_166 : decode cX7_overhears 166 = .ok (.iadd, 1) := by decide +kernel
theorem dX7_overhears_167 : decode cX7_overhears 167 = .ok (.iconst 4, 1) := by decide +kernel
theorem dX7_overhears_168 : decode cX7_overhears 168 = .ok (.iadd, 1) := by decide +kernel
theorem dX7_overhears_169 : decode cX7_overhears 169 = .ok (.iaload, 1) := by decide +kernel
theorem dX7_overhears_170 : decode cX7_overhears 170 = .ok (.iastore, 1) := by decide +kernel
theorem dX7_overhears_171 : decode cX7_overhears 171 = .ok (.iinc 7 1, 3) := by decide +kernel
theorem dX7_overhears_174 : decode cX7_overhears 174 = .ok (.goto (-38), 3) := by decide +kernel
theorem dX7_overhears_177 : decode cX7_overhears 177 = .ok (.aload_n 0, 1) := by decide +kernel
theorem dX7_overhears_178 : decode cX7_overhears 178 = .ok (.getfield 13, 3) := by decide +kernel
theorem dX7_overhears_181 : decode cX7_overhears 181 = .ok (.iload 5, 2) := by decide +kernel
theorem dX7_overhears_183 : decode cX7_overhears 183 = .ok (.bipush 33, 2) := by decide +kernel
theorem dX7_overhears_185 : decode cX7_overhears 185 = .ok (.iadd, 1) := by decide +kernel
theorem dX7_overhears_186 : decode cX7_overhears 186 = .ok (.dup2, 1) := by decide +kernel
theorem dX7_overhears_187 : decode cX7_overhears 187 = .ok (.iaload, 1) := by decide +kernel
theorem dX7_overhears_188 : decode cX7_overhears 188 = .ok (.iconst 1, 1) := by decide +kernel
theorem dX7_overhears_189 : decode cX7_overhears 189 = .ok (.isub, 1) := by decide +kernel
theorem dX7_overhears_190 : decode cX7_overhears 190 = .ok (.iastore, 1) := by decide +kernel
theorem dX7_overhears_191 : decode cX7_overhears 191 = .ok (.iload 5, 2) := by decide +kernel
theorem dX7_overhears_193 : decode cX7_overhears 193 = .ok (.bipush 33, 2) := by decide +kernel
theorem dX7_overhears_195 : decode cX7_overhears 195 = .ok (.iadd, 1) := by decide +kernel
theorem dX7_overhears_196 : decode cX7_overhears 196 = .ok (.iconst 1, 1) := by decide +kernel
theorem dX7_overhears_197 : decode cX7_overhears 197 = .ok (.iadd, 1) := by decide +kernel
theorem dX7_overhears_198 : decode cX7_overhears 198 = .ok (.iconst 4, 1) := by decide +kernel
theorem dX7_overhears_199 : decode cX7_overhears 199 = .ok (.aload_n 0, 1) := by decide +kernel
theorem dX7_overhears_200 : decode cX7_overhears 200 = .ok (.getfield 13, 3) := by decide +kernel
theorem dX7_overhears_203 : decode cX7_overhears 203 = .ok (.iload 5, 2) := by decide +kernel
theorem dX7_overhears_205 : decode cX7_overhears 205 = .ok (.bipush 33, 2) := by decide +kernel
theorem dX7_overhears_207 : decode cX7_overhears 207 = .ok (.iadd, 1) := by decide +kernel
theorem dX7_overhears_208 : decode cX7_overhears 208 = .ok (.iaload, 1) := by decide +kernel
theorem dX7_overhears_209 : decode cX7_overhears 209 = .ok (.imul, 1) := by decide +kernel
theorem dX7_overhears_210 : decode cX7_overhears 210 = .ok (.iadd, 1) := by decide +kernel
theorem dX7_overhears_211 : decode cX7_overhears 211 = .ok (.istore 7, 2) := by decide +kernel
theorem dX7_overhears_213 : decode cX7_overhears 213 = .ok (.aload_n 0, 1) := by decide +kernel
theorem dX7_overhears_214 : decode cX7_overhears 214 = .ok (.getfield 13, 3) := by decide +kernel
theorem dX7_overhears_217 : decode cX7_overhears 217 = .ok (.iload 7, 2) := by decide +kernel
theorem dX7_overhears_219 : decode cX7_overhears 219 = .ok (.iload 4, 2) := by decide +kernel
theorem dX7_overhears_221 : decode cX7_overhears 221 = .ok (.iastore, 1) := by decide +kernel
theorem dX7_overhears_222 : decode cX7_overhears 222 = .ok (.aload_n 0, 1) := by decide +kernel
theorem dX7_overhears_223 : decode cX7_overhears 223 = .ok (.getfield 13, 3) := by decide +kernel
theorem dX7_overhears_226 : decode cX7_overhears 226 = .ok (.iload 7, 2) := by decide +kernel
theorem dX7_overhears_228 : decode cX7_overhears 228 = .ok (.iconst 1, 1) := by decide +kernel
theorem dX7_overhears_229 : decode cX7_overhears 229 = .ok (.iadd, 1) := by decide +kernel
theorem dX7_overhears_230 : decode cX7_overhears 230 = .ok (.iload_n 3, 1) := by decide +kernel
theorem dX7_overhears_231 : decode cX7_overhears 231 = .ok (.iastore, 1) := by decide +kernel
theorem dX7_overhears_232 : decode cX7_overhears 232 = .ok (.aload_n 0, 1) := by decide +kernel
theorem dX7_overhears_233 : decode cX7_overhears 233 = .ok (.getfield 13, 3) := by decide +kernel
theorem dX7_overhears_236 : decode cX7_overhears 236 = .ok (.iload 7, 2) := by decide +kernel
theorem dX7_overhears_238 : decode cX7_overhears 238 = .ok (.iconst 2, 1) := by decide +kernel
theorem dX7_overhears_239 : decode cX7_overhears 239 = .ok (.iadd, 1) := by decide +kernel
theorem dX7_overhears_240 : decode cX7_overhears 240 = .ok (.aload_n 0, 1) := by decide +kernel
theorem dX7_overhears_241 : decode cX7_overhears 241 = .ok (.getfield 25, 3) := by decide +kernel
theorem dX7_overhears_244 : decode cX7_overhears 244 = .ok (.iload_n 3, 1) := by decide +kernel
theorem dX7_overhears_245 : decode cX7_overhears 245 = .ok (.iaload, 1) := by decide +kernel
theorem dX7_overhears_246 : decode cX7_overhears 246 = .ok (.iastore, 1) := by decide +kernel
theorem dX7_overhears_247 : decode cX7_overhears 247 = .ok (.aload_n 0, 1) := by decide +kernel
theorem dX7_overhears_248 : decode cX7_overhears 248 = .ok (.getfield 13, 3) := by decide +kernel
theorem dX7_overhears_251 : decode cX7_overhears 251 = .ok (.iload 7, 2) := by decide +kernel
theorem dX7_overhears_253 : decode cX7_overhears 253 = .ok (.iconst 3, 1) := by decide +kernel
theorem dX7_overhears_254 : decode cX7_overhears 254 = .ok (.iadd, 1) := by decide +kernel
theorem dX7_overhears_255 : decode cX7_overhears 255 = .ok (.aload_n 0, 1) := by decide +kernel
theorem dX7_overhears_256 : decode cX7_overhears 256 = .ok (.getfield 22, 3) := by decide +kernel
theorem dX7_overhears_259 : decode cX7_overhears 259 = .ok (.iload_n 3, 1) := by decide +kernel
theorem dX7_overhears_260 : decode cX7_overhears 260 = .ok (.iaload, 1) := by decide +kernel
theorem dX7_overhears_261 : decode cX7_overhears 261 = .ok (.iastore, 1) := by decide +kernel
theorem dX7_overhears_262 : decode cX7_overhears 262 = .ok (.aload_n 0, 1) := by decide +kernel
theorem dX7_overhears_263 : decode cX7_overhears 263 = .ok (.getfield 13, 3) := by decide +kernel
theorem dX7_overhears_266 : decode cX7_overhears 266 = .ok (.iload 5, 2) := by decide +kernel
theorem dX7_overhears_268 : decode cX7_overhears 268 = .ok (.bipush 33, 2) := by decide +kernel
theorem dX7_overhears_270 : decode cX7_overhears 270 = .ok (.iadd, 1) := by decide +kernel
theorem dX7_overhears_271 : decode cX7_overhears 271 = .ok (.dup2, 1) := by decide +kernel
theorem dX7_overhears_272 : decode cX7_overhears 272 = .ok (.iaload, 1) := by decide +kernel
theorem dX7_overhears_273 : decode cX7_overhears 273 = .ok (.iconst 1, 1) := by decide +kernel
theorem dX7_overhears_274 : decode cX7_overhears 274 = .ok (.iadd, 1) := by decide +kernel
theorem dX7_overhears_275 : decode cX7_overhears 275 = .ok (.iastore, 1) := by decide +kernel
theorem dX7_overhears_276 : decode cX7_overhears 276 = .ok (.return_, 1) := by decide +kernel
theorem dX7_gets_0 : decode cX7_gets 0 = .ok (.iload_n 1, 1) := by decide +kernel
theorem dX7_gets_1 : decode cX7_gets 1 = .ok (.iload_n 2, 1) := by decide +kernel
theorem dX7_gets_2 : decode cX7_gets 2 = .ok (.invokestatic 52, 3) := by decide +kernel
theorem dX7_gets_5 : decode cX7_gets 5 = .ok (.istore 5, 2) := by decide +kernel
theorem dX7_gets_7 : decode cX7_gets 7 = .ok (.aload_n 0, 1) := by decide +kernel
theorem dX7_gets_8 : decode cX7_gets 8 = .ok (.getfield 13, 3) := by decide +kernel
theorem dX7_gets_11 : decode cX7_gets 11 = .ok (.iload 5, 2) := by decide +kernel
theorem dX7_gets_13 : decode cX7_gets 13 = .ok (.bipush 26, 2) := by decide +kernel
theorem dX7_gets_15 : decode cX7_gets 15 = .ok (.iadd, 1) := by decide +kernel
theorem dX7_gets_16 : decode cX7_gets 16 = .ok (.iaload, 1) := by decide +kernel
theorem dX7_gets_17 : decode cX7_gets 17 = .ok (.ifCond .le 21, 3) := by decide +kernel
theorem dX7_gets_20 : decode cX7_gets 20 = .ok (.aload_n 0, 1) := by decide +kernel
theorem dX7_gets_21 : decode cX7_gets 21 = .ok (.getfield 13, 3) := by decide +kernel
theorem dX7_gets_24 : decode cX7_gets 24 = .ok (.iload 5, 2) := by decide +kernel
theorem dX7_gets_26 : decode cX7_gets 26 = .ok (.bipush 27, 2) := by decide +kernel
theorem dX7_gets_28 : decode cX7_gets 28 = .ok (.iadd, 1) := by decide +kernel
theorem dX7_gets_29 : decode cX7_gets 29 = .ok (.iaload, 1) := by decide +kernel
theorem dX7_gets_30 : decode cX7_gets 30 = .ok (.iload_n 3, 1) := by decide +kernel
theorem dX7_gets_31 : decode cX7_gets 31 = .ok (.if_icmp .ne 7, 3) := by decide +kernel
theorem dX7_gets_34 : decode cX7_gets 34 = .ok (.iconst 1, 1) := by decide +kernel
theorem dX7_gets_35 : decode cX7_gets 35 = .ok (.goto 4, 3) := by decide +kernel
theorem dX7_gets_38 : decode cX7_gets 38 = .ok (.iconst 0, 1) := by decide +kernel
theorem dX7_gets_39 : decode cX7_gets 39 = .ok (.istore 6, 2) := by decide +kernel
theorem dX7_gets_41 : decode cX7_gets 41 = .ok (.aload_n 0, 1) := by decide +kernel
theorem dX7_gets_42 : decode cX7_gets 42 = .ok (.getfield 13, 3) := by decide +kernel
theorem dX7_gets_45 : decode cX7_gets 45 = .ok (.sipush 440, 3) := by decide +kernel
theorem dX7_gets_48 : decode cX7_gets 48 = .ok (.iload_n 1, 1) := by decide +kernel
theorem dX7_gets_49 : decode cX7_gets 49 = .ok (.imul, 1) := by decide +kernel
theorem dX7_gets_50 : decode cX7_gets 50 = .ok (.sipush 420, 3) := by decide +kernel
theorem dX7_gets_53 : decode cX7_gets 53 = .ok (.iadd, 1) := by decide +kernel
theorem dX7_gets_54 : decode cX7_gets 54 = .ok (.iload_n 2, 1) := by decide +kernel
theorem dX7_gets_55 : decode cX7_gets 55 = .ok (.iadd, 1) := by decide +kernel
theorem dX7_gets_56 : decode cX7_gets 56 = .ok (.iaload, 1) := by decide +kernel
theorem dX7_gets_57 : decode cX7_gets 57 = .ok (.iload 4, 2) := by decide +kernel
theorem dX7_gets_59 : decode cX7_gets 59 = .ok (.iand, 1) := by decide +kernel
theorem dX7_gets_60 : decode cX7_gets 60 = .ok (.istore 7, 2) := by decide +kernel
theorem dX7_gets_62 : decode cX7_gets 62 = .ok (.iconst 0, 1) := by decide +kernel
theorem dX7_gets_63 : decode cX7_gets 63 = .ok (.istore 8, 2) := by decide +kernel
theorem dX7_gets_65 : decode cX7_gets 65 = .ok (.iload 4, 2) := by decide +kernel
theorem dX7_gets_67 : decode cX7_gets 67 = .ok (.iload_n 2, 1) := by decide +kernel
theorem dX7_gets_68 : decode cX7_gets 68 = .ok (.invokestatic 105, 3) := by decide +kernel
theorem dX7_gets_71 : decode cX7_gets 71 = .ok (.ifCond .ne 28, 3) := by decide +kernel
theorem dX7_gets_74 : decode cX7_gets 74 = .ok (.iload 7, 2) := by decide +kernel
theorem dX7_gets_76 : decode cX7_gets 76 = .ok (.invokestatic 153, 3) := by decide +kernel
theorem dX7_gets_79 : decode cX7_gets 79 = .ok (.iconst 1, 1) := by decide +kernel
theorem dX7_gets_80 : decode cX7_gets 80 = .ok (.if_icmp .le 19, 3) := by decide +kernel
theorem dX7_gets_83 : decode cX7_gets 83 = .ok (.aload_n 0, 1) := by decide +kernel
theorem dX7_gets_84 : decode cX7_gets 84 = .ok (.getfield 13, 3) := by decide +kernel
theorem dX7_gets_87 : decode cX7_gets 87 = .ok (.iload 5, 2) := by decide +kernel
theorem dX7_gets_89 : decode cX7_gets 89 = .ok (.iconst 4, 1) := by decide +kernel
theorem dX7_gets_90 : decode cX7_gets 90 = .ok (.iadd, 1) := by decide +kernel
theorem dX7_gets_91 : decode cX7_gets 91 = .ok (.dup2, 1) := by decide +kernel
theorem dX7_gets_92 : decode cX7_gets 92 = .ok (.iaload, 1) := by decide +kernel
theorem dX7_gets_93 : decode cX7_gets 93 = .ok (.iconst 1, 1) := by decide +kernel
theorem dX7_gets_94 : decode cX7_gets 94 = .ok (.iadd, 1) := by decide +kernel
theorem dX7_gets_95 : decode cX7_gets 95 = .ok (.iastore, 1) := by decide +kernel
theorem dX7_gets_96 : decode cX7_gets 96 = .ok (.goto 70, 3) := by decide +kernel
theorem dX7_gets_99 : decode cX7_gets 99 = .ok (.iload 4, 2) := by decide +kernel
theorem dX7_gets_101 : decode cX7_gets 101 = .ok (.iload_n 2, 1) := by decide +kernel
theorem dX7_gets_102 : decode cX7_gets 102 = .ok (.invokestatic 105, 3) := by decide +kernel
theorem dX7_gets_105 : decode cX7_gets 105 = .ok (.ifCond .ne 61, 3) := by decide +kernel
theorem dX7_gets_108 : decode cX7_gets 108 = .ok (.iload 7, 2) := by decide +kernel
theorem dX7_gets_110 : decode cX7_gets 110 = .ok (.ifCond .le 56, 3) := by decide +kernel
theorem dX7_gets_113 : decode cX7_gets 113 = .ok (.iconst 0, 1) := by decide +kernel
theorem dX7_gets_114 : decode cX7_gets 114 = .ok (.istore 9, 2) := by decide +kernel
theorem dX7_gets_116 : decode cX7_gets 116 = .ok (.iload 7, 2) := by decide +kernel
theorem dX7_gets_118 : decode cX7_gets 118 = .ok (.iload 9, 2) := by decide +kernel
theorem dX7_gets_120 : decode cX7_gets 120 = .ok (.invokestatic 105, 3) := by decide +kernel
theorem dX7_gets_123 : decode cX7_gets 123 = .ok (.ifCond .ne 9, 3) := by decide +kernel
theorem dX7_gets_126 : decode cX7_gets 126 = .ok (.iinc 9 1, 3) := by decide +kernel
theorem dX7_gets_129 : decode cX7_gets 129 = .ok (.goto (-13), 3) := by decide +kernel
theorem dX7_gets_132 : decode cX7_gets 132 = .ok (.aload_n 0, 1) := by decide +kernel
theorem dX7_gets_133 : decode cX7_gets 133 = .ok (.getfield 25, 3) := by decide +kernel
theorem dX7_gets_136 : decode cX7_gets 136 = .ok (.iload 9, 2) := by decide +kernel
theorem dX7_gets_138 : decode cX7_gets 138 = .ok (.iaload, 1) := by decide +kernel
theorem dX7_gets_139 : decode cX7_gets 139 = .ok (.iload_n 2, 1) := by decide +kernel
theorem dX7_gets_140 : decode cX7_gets 140 = .ok (.if_icmp .ne 17, 3) := by decide +kernel
theorem dX7_gets_143 : decode cX7_gets 143 = .ok (.aload_n 0, 1) := by decide +kernel
theorem dX7_gets_144 : decode cX7_gets 144 = .ok (.iload_n 1, 1) := by decide +kernel
theorem dX7_gets_145 : decode cX7_gets 145 = .ok (.iload_n 2, 1) := by decide +kernel
theorem dX7_gets_146 : decode cX7_gets 146 = .ok (.iload 9, 2) := by decide +kernel
theorem dX7_gets_148 : decode cX7_gets 148 = .ok (.iload_n 3, 1) := by decide +kernel
theorem dX7_gets_149 : decode cX7_gets 149 = .ok (.invokevirtual 156, 3) := by decide +kernel
theorem dX7_gets_152 : decode cX7_gets 152 = .ok (.istore 8, 2) := by decide +kernel
theorem dX7_gets_154 : decode cX7_gets 154 = .ok (.goto 12, 3) := by decide +kernel
theorem dX7_gets_157 : decode cX7_gets 157 = .ok (.aload_n 0, 1) := by decide +kernel
theorem dX7_gets_158 : decode cX7_gets 158 = .ok (.iload_n 1, 1) := by decide +kernel
theorem dX7_gets_159 : decode cX7_gets 159 = .ok (.iload_n 2, 1) := by decide +kernel
theorem dX7_gets_160 : decode cX7_gets 160 = .ok (.iload 9, 2) := by decide +kernel
theorem dX7_gets_162 : decode cX7_gets 162 = .ok (.iload_n 3, 1) := by decide +kernel
theorem dX7_gets_163 : decode cX7_gets 163 = .ok (.invokevirtual 160, 3) := by decide +kernel
theorem dX7_gets_166 : decode cX7_gets 166 = .ok (.iload 6, 2) := by decide +kernel
theorem dX7_gets_168 : decode cX7_gets 168 = .ok (.ifCond .eq 14, 3) := by decide +kernel
theorem dX7_gets_171 : decode cX7_gets 171 = .ok (.iload 8, 2) := by decide +kernel
theorem dX7_gets_173 : decode cX7_gets 173 = .ok (.ifCond .ne 9, 3) := by decide +kernel
theorem dX7_gets_176 : decode cX7_gets 176 = .ok (.aload_n 0, 1) := by decide +kernel
theorem dX7_gets_177 : decode cX7_gets 177 = .ok (.iload_n 1, 1) := by decide +kernel
theorem dX7_gets_178 : decode cX7_gets 178 = .ok (.iload_n 2, 1) := by decide +kernel
theorem dX7_gets_179 : decode cX7_gets 179 = .ok (.invokevirtual 163, 3) := by decide +kernel
theorem dX7_gets_182 : decode cX7_gets 182 = .ok (.return_, 1) := by decide +kernel
theorem dX7_goes_0 : decode cX7_goes 0 = .ok (.aload_n 0, 1) := by decide +kernel
theorem dX7_goes_1 : decode cX7_goes 1 = .ok (.getfield 13, 3) := by decide +kernel
theorem dX7_goes_4 : decode cX7_goes 4 = .ok (.sipush 440, 3) := by decide +kernel
theorem dX7_goes_7 : decode cX7_goes 7 = .ok (.iload_n 1, 1) := by decide +kernel
theorem dX7_goes_8 : decode cX7_goes 8 = .ok (.imul, 1) := by decide +kernel
theorem dX7_goes_9 : decode cX7_goes 9 = .ok (.sipush 426, 3) := by decide +kernel
theorem dX7_goes_12 : decode cX7_goes 12 = .ok (.iadd, 1) := by decide +kernel
theorem dX7_goes_13 : decode cX7_goes 13 = .ok (.iaload, 1) := by decide +kernel
theorem dX7_goes_14 : decode cX7_goes 14 = .ok (.iconst 1, 1) := by decide +kernel
theorem dX7_goes_15 : decode cX7_goes 15 = .ok (.iadd, 1) := by decide +kernel
theorem dX7_goes_16 : decode cX7_goes 16 = .ok (.istore_n 2, 1) := by decide +kernel
theorem dX7_goes_17 : decode cX7_goes 17 = .ok (.iconst 0, 1) := by decide +kernel
theorem dX7_goes_18 : decode cX7_goes 18 = .ok (.istore_n 3, 1) := by decide +kernel
theorem dX7_goes_19 : decode cX7_goes 19 = .ok (.iconst 0, 1) := by decide +kernel
theorem dX7_goes_20 : decode cX7_goes 20 = .ok (.istore 4, 2) := by decide +kernel
theorem dX7_goes_22 : decode cX7_goes 22 = .ok (.iload 4, 2) := by decide +kernel
theorem dX7_goes_24 : decode cX7_goes 24 = .ok (.aload_n 0, 1) := by decide +kernel
theorem dX7_goes_25 : decode cX7_goes 25 = .ok (.getfield 56, 3) := by decide +kernel
theorem dX7_goes_28 : decode cX7_goes 28 = .ok (.if_icmp .ge 38, 3) := by decide +kernel
theorem dX7_goes_31 : decode cX7_goes 31 = .ok (.aload_n 0, 1) := by decide +kernel
theorem dX7_goes_32 : decode cX7_goes 32 = .ok (.iload_n 1, 1) := by decide +kernel
theorem dX7_goes_33 : decode cX7_goes 33 = .ok (.iload 4, 2) := by decide +kernel
theorem dX7_goes_35 : decode cX7_goes 35 = .ok (.iload_n 2, 1) := by decide +kernel
theorem dX7_goes_36 : decode cX7_goes 36 = .ok (.invokevirtual 166, 3) := by decide +kernel
theorem dX7_goes_39 : decode cX7_goes 39 = .ok (.iload_n 3, 1) := by decide +kernel
theorem dX7_goes_40 : decode cX7_goes 40 = .ok (.aload_n 0, 1) := by decide +kernel
theorem dX7_goes_41 : decode cX7_goes 41 = .ok (.getfield 22, 3) := by decide +kernel
theorem dX7_goes_44 : decode cX7_goes 44 = .ok (.iload 4, 2) := by decide +kernel
theorem dX7_goes_46 : decode cX7_goes 46 = .ok (.iaload, 1) := by decide +kernel
theorem dX7_goes_47 : decode cX7_goes 47 = .ok (.ifCond .le 10, 3) := by decide +kernel
theorem dX7_goes_50 : decode cX7_goes 50 = .ok (.iconst 1, 1) := by decide +kernel
theorem dX7_goes_51 : decode cX7_goes 51 = .ok (.iload 4, 2) := by decide +kernel
theorem dX7_goes_53 : decode cX7_goes 53 = .ok (.ishl, 1) := by decide +kernel
theorem dX7_goes_54 : decode cX7_goes 54 = .ok (.goto 4, 3) := by decide +kernel
theorem dX7_goes_57 : decode cX7_goes 57 = .ok (.iconst 0, 1) := by decide +kernel
theorem dX7_goes_58 : decode cX7_goes 58 = .ok (.ior, 1) := by decide +kernel
theorem dX7_goes_59 : decode cX7_goes 59 = .ok (.istore_n 3, 1) := by decide +kernel
theorem dX7_goes_60 : decode cX7_goes 60 = .ok (.iinc 4 1, 3) := by decide +kernel
theorem dX7_goes_63 : decode cX7_goes 63 = .ok (.goto (-41), 3) := by decide +kernel
theorem dX7_goes_66 : decode cX7_goes 66 = .ok (.iconst 0, 1) := by decide +kernel
theorem dX7_goes_67 : decode cX7_goes 67 = .ok (.istore 4, 2) := by decide +kernel
theorem dX7_goes_69 : decode cX7_goes 69 = .ok (.iload 4, 2) := by decide +kernel
theorem dX7_goes_71 : decode cX7_goes 71 = .ok (.aload_n 0, 1) := by decide +kernel
theorem dX7_goes_72 : decode cX7_goes 72 = .ok (.getfield 56, 3) := by decide +kernel
theorem dX7_goes_75 : decode cX7_goes 75 = .ok (.if_icmp .ge 17, 3) := by decide +kernel
theorem dX7_goes_78 : decode cX7_goes 78 = .ok (.aload_n 0, 1) := by decide +kernel
theorem dX7_goes_79 : decode cX7_goes 79 = .ok (.iload_n 1, 1) := by decide +kernel
theorem dX7_goes_80 : decode cX7_goes 80 = .ok (.iload 4, 2) := by decide +kernel
theorem dX7_goes_82 : decode cX7_goes 82 = .ok (.iload_n 2, 1) := by decide +kernel
theorem dX7_goes_83 : decode cX7_goes 83 = .ok (.invokevirtual 169, 3) := by decide +kernel
theorem dX7_goes_86 : decode cX7_goes 86 = .ok (.iinc 4 1, 3) := by decide +kernel
theorem dX7_goes_89 : decode cX7_goes 89 = .ok (.goto (-20), 3) := by decide +kernel
theorem dX7_goes_92 : decode cX7_goes 92 = .ok (.iconst 0, 1) := by decide +kernel
theorem dX7_goes_93 : decode cX7_goes 93 = .ok (.istore 4, 2) := by decide +kernel
theorem dX7_goes_95 : decode cX7_goes 95 = .ok (.iload 4, 2) := by decide +kernel
theorem dX7_goes_97 : decode cX7_goes 97 = .ok (.aload_n 0, 1) := by decide +kernel
theorem dX7_goes_98 : decode cX7_goes 98 = .ok (.getfield 56, 3) := by decide +kernel
theorem dX7_goes_101 : decode cX7_goes 101 = .ok (.if_icmp .ge 18, 3) := by decide +kernel
theorem dX7_goes_104 : decode cX7_goes 104 = .ok (.aload_n 0, 1) := by decide +kernel
theorem dX7_goes_105 : decode cX7_goes 105 = .ok (.iload_n 1, 1) := by decide +kernel
end
section
theorem dX7_goes_106 : decode cX7_goes 106 = .ok (.iload 4, 2) := by decide +kernel
theorem dX7_goes_108 : decode cX7_goes 108 = .ok (.iload_n 2, 1) := by decide +kernel
theorem dX7_goes_109 : decode cX7_goes 109 = .ok (.iload_n 3, 1) := by decide +kernel
theorem dX7_goes_110 : decode cX7_goes 110 = .ok (.invokevirtual 172, 3) := by decide +kernel
theorem dX7_goes_113 : decode cX7_goes 113 = .ok (.iinc 4 1, 3) := by decide +kernel
theorem dX7_goes_116 : decode cX7_goes 116 = .ok (.goto (-21), 3) := by decide +kernel
theorem dX7_goes_119 : decode cX7_goes 119 = .ok (.aload_n 0, 1) := by decide +kernel
theorem dX7_goes_120 : decode cX7_goes 120 = .ok (.getfield 13, 3) := by decide +kernel
theorem dX7_goes_123 : decode cX7_goes 123 = .ok (.sipush 440, 3) := by decide +kernel
theorem dX7_goes_126 : decode cX7_goes 126 = .ok (.iload_n 1, 1) := by decide +kernel
theorem dX7_goes_127 : decode cX7_goes 127 = .ok (.imul, 1) := by decide +kernel
theorem dX7_goes_128 : decode cX7_goes 128 = .ok (.sipush 426, 3) := by decide +kernel
theorem dX7_goes_131 : decode cX7_goes 131 = .ok (.iadd, 1) := by decide +kernel
theorem dX7_goes_132 : decode cX7_goes 132 = .ok (.iload_n 2, 1) := by decide +kernel
theorem dX7_goes_133 : decode cX7_goes 133 = .ok (.iastore, 1) := by decide +kernel
theorem dX7_goes_134 : decode cX7_goes 134 = .ok (.aload_n 0, 1) := by decide +kernel
theorem dX7_goes_135 : decode cX7_goes 135 = .ok (.getfield 13, 3) := by decide +kernel
theorem dX7_goes_138 : decode cX7_goes 138 = .ok (.sipush 440, 3) := by decide +kernel
theorem dX7_goes_141 : decode cX7_goes 141 = .ok (.iload_n 1, 1) := by decide +kernel
theorem dX7_goes_142 : decode cX7_goes 142 = .ok (.imul, 1) := by decide +kernel
theorem dX7_goes_143 : decode cX7_goes 143 = .ok (.sipush 427, 3) := by decide +kernel
theorem dX7_goes_146 : decode cX7_goes 146 = .ok (.iadd, 1) := by decide +kernel
theorem dX7_goes_147 : decode cX7_goes 147 = .ok (.iload_n 3, 1) := by decide +kernel
theorem dX7_goes_148 : decode cX7_goes 148 = .ok (.iastore, 1) := by decide +kernel
theorem dX7_goes_149 : decode cX7_goes 149 = .ok (.return_, 1) := by decide +kernel
theorem dX7_all_0 : decode cX7_all 0 = .ok (.iconst 0, 1) := by decide +kernel
theorem dX7_all_1 : decode cX7_all 1 = .ok (.istore_n 3, 1) := by decide +kernel
theorem dX7_all_2 : decode cX7_all 2 = .ok (.iconst 0, 1) := by decide +kernel
theorem dX7_all_3 : decode cX7_all 3 = .ok (.istore 4, 2) := by decide +kernel
theorem dX7_all_5 : decode cX7_all 5 = .ok (.iload 4, 2) := by decide +kernel
theorem dX7_all_7 : decode cX7_all 7 = .ok (.aload_n 0, 1) := by decide +kernel
theorem dX7_all_8 : decode cX7_all 8 = .ok (.getfield 56, 3) := by decide +kernel
theorem dX7_all_11 : decode cX7_all 11 = .ok (.if_icmp .ge 25, 3) := by decide +kernel
theorem dX7_all_14 : decode cX7_all 14 = .ok (.iload_n 3, 1) := by decide +kernel
theorem dX7_all_15 : decode cX7_all 15 = .ok (.aload_n 0, 1) := by decide +kernel
theorem dX7_all_16 : decode cX7_all 16 = .ok (.getfield 13, 3) := by decide +kernel
theorem dX7_all_19 : decode cX7_all 19 = .ok (.iload_n 1, 1) := by decide +kernel
theorem dX7_all_20 : decode cX7_all 20 = .ok (.iload 4, 2) := by decide +kernel
theorem dX7_all_22 : decode cX7_all 22 = .ok (.invokestatic 52, 3) := by decide +kernel
theorem dX7_all_25 : decode cX7_all 25 = .ok (.iload_n 2, 1) := by decide +kernel
theorem dX7_all_26 : decode cX7_all 26 = .ok (.iadd, 1) := by decide +kernel
theorem dX7_all_27 : decode cX7_all 27 = .ok (.iaload, 1) := by decide +kernel
theorem dX7_all_28 : decode cX7_all 28 = .ok (.iadd, 1) := by decide +kernel
theorem dX7_all_29 : decode cX7_all 29 = .ok (.istore_n 3, 1) := by decide +kernel
theorem dX7_all_30 : decode cX7_all 30 = .ok (.iinc 4 1, 3) := by decide +kernel
theorem dX7_all_33 : decode cX7_all 33 = .ok (.goto (-28), 3) := by decide +kernel
theorem dX7_all_36 : decode cX7_all 36 = .ok (.iload_n 3, 1) := by decide +kernel
theorem dX7_all_37 : decode cX7_all 37 = .ok (.ireturn, 1) := by decide +kernel
theorem dX7_keeps_0 : decode cX7_keeps 0 = .ok (.aload_n 0, 1) := by decide +kernel
theorem dX7_keeps_1 : decode cX7_keeps 1 = .ok (.getfield 75, 3) := by decide +kernel
theorem dX7_keeps_4 : decode cX7_keeps 4 = .ok (.iconst 4, 1) := by decide +kernel
theorem dX7_keeps_5 : decode cX7_keeps 5 = .ok (.if_icmp .ne 44, 3) := by decide +kernel
theorem dX7_keeps_8 : decode cX7_keeps 8 = .ok (.iconst 0, 1) := by decide +kernel
theorem dX7_keeps_9 : decode cX7_keeps 9 = .ok (.istore_n 1, 1) := by decide +kernel
theorem dX7_keeps_10 : decode cX7_keeps 10 = .ok (.iload_n 1, 1) := by decide +kernel
theorem dX7_keeps_11 : decode cX7_keeps 11 = .ok (.sipush 1320, 3) := by decide +kernel
theorem dX7_keeps_14 : decode cX7_keeps 14 = .ok (.if_icmp .ge 25, 3) := by decide +kernel
theorem dX7_keeps_17 : decode cX7_keeps 17 = .ok (.aload_n 0, 1) := by decide +kernel
theorem dX7_keeps_18 : decode cX7_keeps 18 = .ok (.getfield 16, 3) := by decide +kernel
theorem dX7_keeps_21 : decode cX7_keeps 21 = .ok (.iload_n 1, 1) := by decide +kernel
theorem dX7_keeps_22 : decode cX7_keeps 22 = .ok (.aload_n 0, 1) := by decide +kernel
theorem dX7_keeps_23 : decode cX7_keeps 23 = .ok (.getfield 16, 3) := by decide +kernel
theorem dX7_keeps_26 : decode cX7_keeps 26 = .ok (.iload_n 1, 1) := by decide +kernel
theorem dX7_keeps_27 : decode cX7_keeps 27 = .ok (.sipush 440, 3) := by decide +kernel
theorem dX7_keeps_30 : decode cX7_keeps 30 = .ok (.iadd, 1) := by decide +kernel
theorem dX7_keeps_31 : decode cX7_keeps 31 = .ok (.iaload, 1) := by decide +kernel
theorem dX7_keeps_32 : decode cX7_keeps 32 = .ok (.iastore, 1) := by decide +kernel
theorem dX7_keeps_33 : decode cX7_keeps 33 = .ok (.iinc 1 1, 3) := by decide +kernel
theorem dX7_keeps_36 : decode cX7_keeps 36 = .ok (.goto (-26), 3) := by decide +kernel
theorem dX7_keeps_39 : decode cX7_keeps 39 = .ok (.aload_n 0, 1) := by decide +kernel
theorem dX7_keeps_40 : decode cX7_keeps 40 = .ok (.dup, 1) := by decide +kernel
theorem dX7_keeps_41 : decode cX7_keeps 41 = .ok (.getfield 75, 3) := by decide +kernel
theorem dX7_keeps_44 : decode cX7_keeps 44 = .ok (.iconst 1, 1) := by decide +kernel
theorem dX7_keeps_45 : decode cX7_keeps 45 = .ok (.isub, 1) := by decide +kernel
theorem dX7_keeps_46 : decode cX7_keeps 46 = .ok (.putfield 75, 3) := by decide +kernel
theorem dX7_keeps_49 : decode cX7_keeps 49 = .ok (.iconst 0, 1) := by decide +kernel
theorem dX7_keeps_50 : decode cX7_keeps 50 = .ok (.istore_n 1, 1) := by decide +kernel
theorem dX7_keeps_51 : decode cX7_keeps 51 = .ok (.iload_n 1, 1) := by decide +kernel
theorem dX7_keeps_52 : decode cX7_keeps 52 = .ok (.sipush 440, 3) := by decide +kernel
theorem dX7_keeps_55 : decode cX7_keeps 55 = .ok (.if_icmp .ge 30, 3) := by decide +kernel
theorem dX7_keeps_58 : decode cX7_keeps 58 = .ok (.aload_n 0, 1) := by decide +kernel
theorem dX7_keeps_59 : decode cX7_keeps 59 = .ok (.getfield 16, 3) := by decide +kernel
theorem dX7_keeps_62 : decode cX7_keeps 62 = .ok (.sipush 440, 3) := by decide +kernel
theorem dX7_keeps_65 : decode cX7_keeps 65 = .ok (.aload_n 0, 1) := by decide +kernel
theorem dX7_keeps_66 : decode cX7_keeps 66 = .ok (.getfield 75, 3) := by decide +kernel
theorem dX7_keeps_69 : decode cX7_keeps 69 = .ok (.imul, 1) := by decide +kernel
theorem dX7_keeps_70 : decode cX7_keeps 70 = .ok (.iload_n 1, 1) := by decide +kernel
theorem dX7_keeps_71 : decode cX7_keeps 71 = .ok (.iadd, 1) := by decide +kernel
theorem dX7_keeps_72 : decode cX7_keeps 72 = .ok (.aload_n 0, 1) := by decide +kernel
theorem dX7_keeps_73 : decode cX7_keeps 73 = .ok (.getfield 13, 3) := by decide +kernel
theorem dX7_keeps_76 : decode cX7_keeps 76 = .ok (.iload_n 1, 1) := by decide +kernel
theorem dX7_keeps_77 : decode cX7_keeps 77 = .ok (.iaload, 1) := by decide +kernel
theorem dX7_keeps_78 : decode cX7_keeps 78 = .ok (.iastore, 1) := by decide +kernel
theorem dX7_keeps_79 : decode cX7_keeps 79 = .ok (.iinc 1 1, 3) := by decide +kernel
theorem dX7_keeps_82 : decode cX7_keeps 82 = .ok (.goto (-31), 3) := by decide +kernel
theorem dX7_keeps_85 : decode cX7_keeps 85 = .ok (.aload_n 0, 1) := by decide +kernel
theorem dX7_keeps_86 : decode cX7_keeps 86 = .ok (.dup, 1) := by decide +kernel
theorem dX7_keeps_87 : decode cX7_keeps 87 = .ok (.getfield 75, 3) := by decide +kernel
theorem dX7_keeps_90 : decode cX7_keeps 90 = .ok (.iconst 1, 1) := by decide +kernel
theorem dX7_keeps_91 : decode cX7_keeps 91 = .ok (.iadd, 1) := by decide +kernel
theorem dX7_keeps_92 : decode cX7_keeps 92 = .ok (.putfield 75, 3) := by decide +kernel
theorem dX7_keeps_95 : decode cX7_keeps 95 = .ok (.return_, 1) := by decide +kernel
theorem dX7_undo_0 : decode cX7_undo 0 = .ok (.aload_n 0, 1) := by decide +kernel
theorem dX7_undo_1 : decode cX7_undo 1 = .ok (.getfield 75, 3) := by decide +kernel
theorem dX7_undo_4 : decode cX7_undo 4 = .ok (.ifCond .ne 6, 3) := by decide +kernel
theorem dX7_undo_7 : decode cX7_undo 7 = .ok (.bipush (-2), 2) := by decide +kernel
theorem dX7_undo_9 : decode cX7_undo 9 = .ok (.ireturn, 1) := by decide +kernel
theorem dX7_undo_10 : decode cX7_undo 10 = .ok (.aload_n 0, 1) := by decide +kernel
theorem dX7_undo_11 : decode cX7_undo 11 = .ok (.dup, 1) := by decide +kernel
theorem dX7_undo_12 : decode cX7_undo 12 = .ok (.getfield 75, 3) := by decide +kernel
theorem dX7_undo_15 : decode cX7_undo 15 = .ok (.iconst 1, 1) := by decide +kernel
theorem dX7_undo_16 : decode cX7_undo 16 = .ok (.isub, 1) := by decide +kernel
theorem dX7_undo_17 : decode cX7_undo 17 = .ok (.putfield 75, 3) := by decide +kernel
theorem dX7_undo_20 : decode cX7_undo 20 = .ok (.iconst 0, 1) := by decide +kernel
theorem dX7_undo_21 : decode cX7_undo 21 = .ok (.istore_n 1, 1) := by decide +kernel
theorem dX7_undo_22 : decode cX7_undo 22 = .ok (.iload_n 1, 1) := by decide +kernel
theorem dX7_undo_23 : decode cX7_undo 23 = .ok (.sipush 440, 3) := by decide +kernel
theorem dX7_undo_26 : decode cX7_undo 26 = .ok (.if_icmp .ge 30, 3) := by decide +kernel
theorem dX7_undo_29 : decode cX7_undo 29 = .ok (.aload_n 0, 1) := by decide +kernel
theorem dX7_undo_30 : decode cX7_undo 30 = .ok (.getfield 13, 3) := by decide +kernel
theorem dX7_undo_33 : decode cX7_undo 33 = .ok (.iload_n 1, 1) := by decide +kernel
theorem dX7_undo_34 : decode cX7_undo 34 = .ok (.aload_n 0, 1) := by decide +kernel
theorem dX7_undo_35 : decode cX7_undo 35 = .ok (.getfield 16, 3) := by decide +kernel
theorem dX7_undo_38 : decode cX7_undo 38 = .ok (.sipush 440, 3) := by decide +kernel
theorem dX7_undo_41 : decode cX7_undo 41 = .ok (.aload_n 0, 1) := by decide +kernel
theorem dX7_undo_42 : decode cX7_undo 42 = .ok (.getfield 75, 3) := by decide +kernel
theorem dX7_undo_45 : decode cX7_undo 45 = .ok (.imul, 1) := by decide +kernel
theorem dX7_undo_46 : decode cX7_undo 46 = .ok (.iload_n 1, 1) := by decide +kernel
theorem dX7_undo_47 : decode cX7_undo 47 = .ok (.iadd, 1) := by decide +kernel
theorem dX7_undo_48 : decode cX7_undo 48 = .ok (.iaload, 1) := by decide +kernel
theorem dX7_undo_49 : decode cX7_undo 49 = .ok (.iastore, 1) := by decide +kernel
theorem dX7_undo_50 : decode cX7_undo 50 = .ok (.iinc 1 1, 3) := by decide +kernel
theorem dX7_undo_53 : decode cX7_undo 53 = .ok (.goto (-31), 3) := by decide +kernel
theorem dX7_undo_56 : decode cX7_undo 56 = .ok (.aload_n 0, 1) := by decide +kernel
theorem dX7_undo_57 : decode cX7_undo 57 = .ok (.getfield 75, 3) := by decide +kernel
theorem dX7_undo_60 : decode cX7_undo 60 = .ok (.ireturn, 1) := by decide +kernel
theorem dX7_isStation_0 : decode cX7_isStation 0 = .ok (.iload_n 1, 1) := by decide +kernel
theorem dX7_isStation_1 : decode cX7_isStation 1 = .ok (.iconst 0, 1) := by decide +kernel
theorem dX7_isStation_2 : decode cX7_isStation 2 = .ok (.aload_n 0, 1) := by decide +kernel
theorem dX7_isStation_3 : decode cX7_isStation 3 = .ok (.getfield 56, 3) := by decide +kernel
theorem dX7_isStation_6 : decode cX7_isStation 6 = .ok (.iconst 1, 1) := by decide +kernel
theorem dX7_isStation_7 : decode cX7_isStation 7 = .ok (.isub, 1) := by decide +kernel
theorem dX7_isStation_8 : decode cX7_isStation 8 = .ok (.invokestatic 94, 3) := by decide +kernel
theorem dX7_isStation_11 : decode cX7_isStation 11 = .ok (.ireturn, 1) := by decide +kernel
theorem dX7_areTwo_0 : decode cX7_areTwo 0 = .ok (.aload_n 0, 1) := by decide +kernel
theorem dX7_areTwo_1 : decode cX7_areTwo 1 = .ok (.iload_n 1, 1) := by decide +kernel
theorem dX7_areTwo_2 : decode cX7_areTwo 2 = .ok (.invokevirtual 175, 3) := by decide +kernel
theorem dX7_areTwo_5 : decode cX7_areTwo 5 = .ok (.ifCond .eq 20, 3) := by decide +kernel
theorem dX7_areTwo_8 : decode cX7_areTwo 8 = .ok (.aload_n 0, 1) := by decide +kernel
theorem dX7_areTwo_9 : decode cX7_areTwo 9 = .ok (.iload_n 2, 1) := by decide +kernel
theorem dX7_areTwo_10 : decode cX7_areTwo 10 = .ok (.invokevirtual 175, 3) := by decide +kernel
theorem dX7_areTwo_13 : decode cX7_areTwo 13 = .ok (.ifCond .eq 12, 3) := by decide +kernel
theorem dX7_areTwo_16 : decode cX7_areTwo 16 = .ok (.iload_n 1, 1) := by decide +kernel
theorem dX7_areTwo_17 : decode cX7_areTwo 17 = .ok (.iload_n 2, 1) := by decide +kernel
theorem dX7_areTwo_18 : decode cX7_areTwo 18 = .ok (.if_icmp .eq 7, 3) := by decide +kernel
theorem dX7_areTwo_21 : decode cX7_areTwo 21 = .ok (.iconst 1, 1) := by decide +kernel
theorem dX7_areTwo_22 : decode cX7_areTwo 22 = .ok (.goto 4, 3) := by decide +kernel
theorem dX7_areTwo_25 : decode cX7_areTwo 25 = .ok (.iconst 0, 1) := by decide +kernel
theorem dX7_areTwo_26 : decode cX7_areTwo 26 = .ok (.ireturn, 1) := by decide +kernel
theorem dX7_letter_0 : decode cX7_letter 0 = .ok (.aload_n 0, 1) := by decide +kernel
theorem dX7_letter_1 : decode cX7_letter 1 = .ok (.iload_n 1, 1) := by decide +kernel
theorem dX7_letter_2 : decode cX7_letter 2 = .ok (.iload_n 2, 1) := by decide +kernel
theorem dX7_letter_3 : decode cX7_letter 3 = .ok (.invokevirtual 178, 3) := by decide +kernel
theorem dX7_letter_6 : decode cX7_letter 6 = .ok (.ifCond .eq 13, 3) := by decide +kernel
theorem dX7_letter_9 : decode cX7_letter 9 = .ok (.iload_n 3, 1) := by decide +kernel
theorem dX7_letter_10 : decode cX7_letter 10 = .ok (.iconst 1, 1) := by decide +kernel
theorem dX7_letter_11 : decode cX7_letter 11 = .ok (.bipush 9, 2) := by decide +kernel
theorem dX7_letter_13 : decode cX7_letter 13 = .ok (.invokestatic 94, 3) := by decide +kernel
theorem dX7_letter_16 : decode cX7_letter 16 = .ok (.ifCond .ne 5, 3) := by decide +kernel
theorem dX7_letter_19 : decode cX7_letter 19 = .ok (.iconst (-1), 1) := by decide +kernel
theorem dX7_letter_20 : decode cX7_letter 20 = .ok (.ireturn, 1) := by decide +kernel
theorem dX7_letter_21 : decode cX7_letter 21 = .ok (.aload_n 0, 1) := by decide +kernel
theorem dX7_letter_22 : decode cX7_letter 22 = .ok (.getfield 13, 3) := by decide +kernel
theorem dX7_letter_25 : decode cX7_letter 25 = .ok (.sipush 420, 3) := by decide +kernel
theorem dX7_letter_28 : decode cX7_letter 28 = .ok (.iload_n 1, 1) := by decide +kernel
theorem dX7_letter_29 : decode cX7_letter 29 = .ok (.iadd, 1) := by decide +kernel
theorem dX7_letter_30 : decode cX7_letter 30 = .ok (.iaload, 1) := by decide +kernel
theorem dX7_letter_31 : decode cX7_letter 31 = .ok (.iload_n 2, 1) := by decide +kernel
theorem dX7_letter_32 : decode cX7_letter 32 = .ok (.invokestatic 105, 3) := by decide +kernel
theorem dX7_letter_35 : decode cX7_letter 35 = .ok (.ifCond .ne 6, 3) := by decide +kernel
theorem dX7_letter_38 : decode cX7_letter 38 = .ok (.bipush (-2), 2) := by decide +kernel
theorem dX7_letter_40 : decode cX7_letter 40 = .ok (.ireturn, 1) := by decide +kernel
theorem dX7_letter_41 : decode cX7_letter 41 = .ok (.aload_n 0, 1) := by decide +kernel
theorem dX7_letter_42 : decode cX7_letter 42 = .ok (.getfield 13, 3) := by decide +kernel
theorem dX7_letter_45 : decode cX7_letter 45 = .ok (.iconst 0, 1) := by decide +kernel
theorem dX7_letter_46 : decode cX7_letter 46 = .ok (.iload_n 1, 1) := by decide +kernel
theorem dX7_letter_47 : decode cX7_letter 47 = .ok (.invokestatic 52, 3) := by decide +kernel
theorem dX7_letter_50 : decode cX7_letter 50 = .ok (.bipush 8, 2) := by decide +kernel
theorem dX7_letter_52 : decode cX7_letter 52 = .ok (.iadd, 1) := by decide +kernel
theorem dX7_letter_53 : decode cX7_letter 53 = .ok (.iaload, 1) := by decide +kernel
theorem dX7_letter_54 : decode cX7_letter 54 = .ok (.bipush 6, 2) := by decide +kernel
theorem dX7_letter_56 : decode cX7_letter 56 = .ok (.if_icmp .ne 6, 3) := by decide +kernel
theorem dX7_letter_59 : decode cX7_letter 59 = .ok (.bipush (-3), 2) := by decide +kernel
theorem dX7_letter_61 : decode cX7_letter 61 = .ok (.ireturn, 1) := by decide +kernel
theorem dX7_letter_62 : decode cX7_letter 62 = .ok (.aload_n 0, 1) := by decide +kernel
theorem dX7_letter_63 : decode cX7_letter 63 = .ok (.invokevirtual 181, 3) := by decide +kernel
theorem dX7_letter_66 : decode cX7_letter 66 = .ok (.aload_n 0, 1) := by decide +kernel
theorem dX7_letter_67 : decode cX7_letter 67 = .ok (.iconst 0, 1) := by decide +kernel
theorem dX7_letter_68 : decode cX7_letter 68 = .ok (.iload_n 1, 1) := by decide +kernel
theorem dX7_letter_69 : decode cX7_letter 69 = .ok (.iload_n 2, 1) := by decide +kernel
theorem dX7_letter_70 : decode cX7_letter 70 = .ok (.iload_n 3, 1) := by decide +kernel
theorem dX7_letter_71 : decode cX7_letter 71 = .ok (.invokevirtual 45, 3) := by decide +kernel
theorem dX7_letter_74 : decode cX7_letter 74 = .ok (.aload_n 0, 1) := by decide +kernel
theorem dX7_letter_75 : decode cX7_letter 75 = .ok (.getfield 13, 3) := by decide +kernel
theorem dX7_letter_78 : decode cX7_letter 78 = .ok (.iconst 0, 1) := by decide +kernel
theorem dX7_letter_79 : decode cX7_letter 79 = .ok (.iload_n 1, 1) := by decide +kernel
theorem dX7_letter_80 : decode cX7_letter 80 = .ok (.invokestatic 52, 3) := by decide +kernel
theorem dX7_letter_83 : decode cX7_letter 83 = .ok (.bipush 8, 2) := by decide +kernel
theorem dX7_letter_85 : decode cX7_letter 85 = .ok (.iadd, 1) := by decide +kernel
theorem dX7_letter_86 : decode cX7_letter 86 = .ok (.iaload, 1) := by decide +kernel
theorem dX7_letter_87 : decode cX7_letter 87 = .ok (.iconst 1, 1) := by decide +kernel
theorem dX7_letter_88 : decode cX7_letter 88 = .ok (.if_icmp .ne 9, 3) := by decide +kernel
theorem dX7_letter_91 : decode cX7_letter 91 = .ok (.aload_n 0, 1) := by decide +kernel
theorem dX7_letter_92 : decode cX7_letter 92 = .ok (.iconst 0, 1) := by decide +kernel
theorem dX7_letter_93 : decode cX7_letter 93 = .ok (.iload_n 1, 1) := by decide +kernel
theorem dX7_letter_94 : decode cX7_letter 94 = .ok (.invokevirtual 78, 3) := by decide +kernel
theorem dX7_letter_97 : decode cX7_letter 97 = .ok (.aload_n 0, 1) := by decide +kernel
theorem dX7_letter_98 : decode cX7_letter 98 = .ok (.getfield 13, 3) := by decide +kernel
theorem dX7_letter_101 : decode cX7_letter 101 = .ok (.iconst 0, 1) := by decide +kernel
theorem dX7_letter_102 : decode cX7_letter 102 = .ok (.iload_n 1, 1) := by decide +kernel
theorem dX7_letter_103 : decode cX7_letter 103 = .ok (.invokestatic 52, 3) := by decide +kernel
theorem dX7_letter_106 : decode cX7_letter 106 = .ok (.bipush 8, 2) := by decide +kernel
theorem dX7_letter_108 : decode cX7_letter 108 = .ok (.iadd, 1) := by decide +kernel
theorem dX7_letter_109 : decode cX7_letter 109 = .ok (.iaload, 1) := by decide +kernel
theorem dX7_letter_110 : decode cX7_letter 110 = .ok (.ireturn, 1) := by decide +kernel
theorem dX7_hasFor_0 : decode cX7_hasFor 0 = .ok (.iconst 0, 1) := by decide +kernel
theorem dX7_hasFor_1 : decode cX7_hasFor 1 = .ok (.istore_n 3, 1) := by decide +kernel
theorem dX7_hasFor_2 : decode cX7_hasFor 2 = .ok (.iconst 0, 1) := by decide +kernel
theorem dX7_hasFor_3 : decode cX7_hasFor 3 = .ok (.istore 4, 2) := by decide +kernel
theorem dX7_hasFor_5 : decode cX7_hasFor 5 = .ok (.iload 4, 2) := by decide +kernel
theorem dX7_hasFor_7 : decode cX7_hasFor 7 = .ok (.aload_n 0, 1) := by decide +kernel
theorem dX7_hasFor_8 : decode cX7_hasFor 8 = .ok (.getfield 13, 3) := by decide +kernel
theorem dX7_hasFor_11 : decode cX7_hasFor 11 = .ok (.iconst 0, 1) := by decide +kernel
theorem dX7_hasFor_12 : decode cX7_hasFor 12 = .ok (.iload_n 1, 1) := by decide +kernel
theorem dX7_hasFor_13 : decode cX7_hasFor 13 = .ok (.invokestatic 52, 3) := by decide +kernel
theorem dX7_hasFor_16 : decode cX7_hasFor 16 = .ok (.bipush 8, 2) := by decide +kernel
theorem dX7_hasFor_18 : decode cX7_hasFor 18 = .ok (.iadd, 1) := by decide +kernel
theorem dX7_hasFor_19 : decode cX7_hasFor 19 = .ok (.iaload, 1) := by decide +kernel
theorem dX7_hasFor_20 : decode cX7_hasFor 20 = .ok (.if_icmp .ge 41, 3) := by decide +kernel
theorem dX7_hasFor_23 : decode cX7_hasFor 23 = .ok (.iload_n 3, 1) := by decide +kernel
theorem dX7_hasFor_24 : decode cX7_hasFor 24 = .ok (.ifCond .ne 25, 3) := by decide +kernel
theorem dX7_hasFor_27 : decode cX7_hasFor 27 = .ok (.aload_n 0, 1) := by decide +kernel
theorem dX7_hasFor_28 : decode cX7_hasFor 28 = .ok (.getfield 13, 3) := by decide +kernel
theorem dX7_hasFor_31 : decode cX7_hasFor 31 = .ok (.iconst 0, 1) := by decide +kernel
theorem dX7_hasFor_32 : decode cX7_hasFor 32 = .ok (.iload_n 1, 1) := by decide +kernel
theorem dX7_hasFor_33 : decode cX7_hasFor 33 = .ok (.invokestatic 52, 3) := by decide +kernel
theorem dX7_hasFor_36 : decode cX7_hasFor 36 = .ok (.bipush 9, 2) := by decide +kernel
theorem dX7_hasFor_38 : decode cX7_hasFor 38 = .ok (.iadd, 1) := by decide +kernel
theorem dX7_hasFor_39 : decode cX7_hasFor 39 = .ok (.iconst 2, 1) := by decide +kernel
theorem dX7_hasFor_40 : decode cX7_hasFor 40 = .ok (.iload 4, 2) := by decide +kernel
theorem dX7_hasFor_42 : decode cX7_hasFor 42 = .ok (.imul, 1) := by decide +kernel
theorem dX7_hasFor_43 : decode cX7_hasFor 43 = .ok (.iadd, 1) := by decide +kernel
theorem dX7_hasFor_44 : decode cX7_hasFor 44 = .ok (.iaload, 1) := by decide +kernel
theorem dX7_hasFor_45 : decode cX7_hasFor 45 = .ok (.iload_n 2, 1) := by decide +kernel
theorem dX7_hasFor_46 : decode cX7_hasFor 46 = .ok (.if_icmp .ne 7, 3) := by decide +kernel
theorem dX7_hasFor_49 : decode cX7_hasFor 49 = .ok (.iconst 1, 1) := by decide +kernel
theorem dX7_hasFor_50 : decode cX7_hasFor 50 = .ok (.goto 4, 3) := by decide +kernel
theorem dX7_hasFor_53 : decode cX7_hasFor 53 = .ok (.iconst 0, 1) := by decide +kernel
theorem dX7_hasFor_54 : decode cX7_hasFor 54 = .ok (.istore_n 3, 1) := by decide +kernel
theorem dX7_hasFor_55 : decode cX7_hasFor 55 = .ok (.iinc 4 1, 3) := by decide +kernel
theorem dX7_hasFor_58 : decode cX7_hasFor 58 = .ok (.goto (-53), 3) := by decide +kernel
theorem dX7_hasFor_61 : decode cX7_hasFor 61 = .ok (.iload_n 3, 1) := by decide +kernel
theorem dX7_hasFor_62 : decode cX7_hasFor 62 = .ok (.ireturn, 1) := by decide +kernel
theorem dX7_pairs_0 : decode cX7_pairs 0 = .ok (.iconst 0, 1) := by decide +kernel
theorem dX7_pairs_1 : decode cX7_pairs 1 = .ok (.istore_n 2, 1) := by decide +kernel
theorem dX7_pairs_2 : decode cX7_pairs 2 = .ok (.iconst 0, 1) := by decide +kernel
theorem dX7_pairs_3 : decode cX7_pairs 3 = .ok (.istore_n 3, 1) := by decide +kernel
theorem dX7_pairs_4 : decode cX7_pairs 4 = .ok (.iload_n 3, 1) := by decide +kernel
theorem dX7_pairs_5 : decode cX7_pairs 5 = .ok (.aload_n 0, 1) := by decide +kernel
theorem dX7_pairs_6 : decode cX7_pairs 6 = .ok (.getfield 56, 3) := by decide +kernel
theorem dX7_pairs_9 : decode cX7_pairs 9 = .ok (.if_icmp .ge 43, 3) := by decide +kernel
theorem dX7_pairs_12 : decode cX7_pairs 12 = .ok (.iconst 0, 1) := by decide +kernel
theorem dX7_pairs_13 : decode cX7_pairs 13 = .ok (.istore 4, 2) := by decide +kernel
theorem dX7_pairs_15 : decode cX7_pairs 15 = .ok (.iload 4, 2) := by decide +kernel
theorem dX7_pairs_17 : decode cX7_pairs 17 = .ok (.iload_n 3, 1) := by decide +kernel
theorem dX7_pairs_18 : decode cX7_pairs 18 = .ok (.if_icmp .ge 28, 3) := by decide +kernel
theorem dX7_pairs_21 : decode cX7_pairs 21 = .ok (.iload_n 2, 1) := by decide +kernel
theorem dX7_pairs_22 : decode cX7_pairs 22 = .ok (.aload_n 0, 1) := by decide +kernel
theorem dX7_pairs_23 : decode cX7_pairs 23 = .ok (.iload_n 3, 1) := by decide +kernel
theorem dX7_pairs_24 : decode cX7_pairs 24 = .ok (.iload 4, 2) := by decide +kernel
theorem dX7_pairs_26 : decode cX7_pairs 26 = .ok (.invokevirtual 184, 3) := by decide +kernel
theorem dX7_pairs_29 : decode cX7_pairs 29 = .ok (.iload_n 1, 1) := by decide +kernel
theorem dX7_pairs_30 : decode cX7_pairs 30 = .ok (.if_icmp .ne 7, 3) := by decide +kernel
theorem dX7_pairs_33 : decode cX7_pairs 33 = .ok (.iconst 1, 1) := by decide +kernel
theorem dX7_pairs_34 : decode cX7_pairs 34 = .ok (.goto 4, 3) := by decide +kernel
theorem dX7_pairs_37 : decode cX7_pairs 37 = .ok (.iconst 0, 1) := by decide +kernel
theorem dX7_pairs_38 : decode cX7_pairs 38 = .ok (.iadd, 1) := by decide +kernel
theorem dX7_pairs_39 : decode cX7_pairs 39 = .ok (.istore_n 2, 1) := by decide +kernel
theorem dX7_pairs_40 : decode cX7_pairs 40 = .ok (.iinc 4 1, 3) := by decide +kernel
theorem dX7_pairs_43 : decode cX7_pairs 43 = .ok (.goto (-28), 3) := by decide +kernel
theorem dX7_pairs_46 : decode cX7_pairs 46 = .ok (.iinc 3 1, 3) := by decide +kernel
theorem dX7_pairs_49 : decode cX7_pairs 49 = .ok (.goto (-45), 3) := by decide +kernel
theorem dX7_pairs_52 : decode cX7_pairs 52 = .ok (.iload_n 2, 1) := by decide +kernel
theorem dX7_pairs_53 : decode cX7_pairs 53 = .ok (.ireturn, 1) := by decide +kernel
theorem dX7_pairOf_0 : decode cX7_pairOf 0 = .ok (.aload_n 0, 1) := by decide +kernel
theorem dX7_pairOf_1 : decode cX7_pairOf 1 = .ok (.getfield 13, 3) := by decide +kernel
theorem dX7_pairOf_4 : decode cX7_pairOf 4 = .ok (.sipush 420, 3) := by decide +kernel
theorem dX7_pairOf_7 : decode cX7_pairOf 7 = .ok (.iload_n 1, 1) := by decide +kernel
theorem dX7_pairOf_8 : decode cX7_pairOf 8 = .ok (.iadd, 1) := by decide +kernel
theorem dX7_pairOf_9 : decode cX7_pairOf 9 = .ok (.iaload, 1) := by decide +kernel
theorem dX7_pairOf_10 : decode cX7_pairOf 10 = .ok (.iload_n 2, 1) := by decide +kernel
theorem dX7_pairOf_11 : decode cX7_pairOf 11 = .ok (.invokestatic 105, 3) := by decide +kernel
theorem dX7_pairOf_14 : decode cX7_pairOf 14 = .ok (.ifCond .eq 7, 3) := by decide +kernel
theorem dX7_pairOf_17 : decode cX7_pairOf 17 = .ok (.iconst 0, 1) := by decide +kernel
theorem dX7_pairOf_18 : decode cX7_pairOf 18 = .ok (.goto 32, 3) := by decide +kernel
theorem dX7_pairOf_21 : decode cX7_pairOf 21 = .ok (.aload_n 0, 1) := by decide +kernel
theorem dX7_pairOf_22 : decode cX7_pairOf 22 = .ok (.getfield 13, 3) := by decide +kernel
theorem dX7_pairOf_25 : decode cX7_pairOf 25 = .ok (.sipush 420, 3) := by decide +kernel
theorem dX7_pairOf_28 : decode cX7_pairOf 28 = .ok (.iload_n 1, 1) := by decide +kernel
theorem dX7_pairOf_29 : decode cX7_pairOf 29 = .ok (.iadd, 1) := by decide +kernel
theorem dX7_pairOf_30 : decode cX7_pairOf 30 = .ok (.iaload, 1) := by decide +kernel
theorem dX7_pairOf_31 : decode cX7_pairOf 31 = .ok (.aload_n 0, 1) := by decide +kernel
theorem dX7_pairOf_32 : decode cX7_pairOf 32 = .ok (.getfield 13, 3) := by decide +kernel
theorem dX7_pairOf_35 : decode cX7_pairOf 35 = .ok (.sipush 420, 3) := by decide +kernel
theorem dX7_pairOf_38 : decode cX7_pairOf 38 = .ok (.iload_n 2, 1) := by decide +kernel
theorem dX7_pairOf_39 : decode cX7_pairOf 39 = .ok (.iadd, 1) := by decide +kernel
theorem dX7_pairOf_40 : decode cX7_pairOf 40 = .ok (.iaload, 1) := by decide +kernel
theorem dX7_pairOf_41 : decode cX7_pairOf 41 = .ok (.iand, 1) := by decide +kernel
theorem dX7_pairOf_42 : decode cX7_pairOf 42 = .ok (.ifCond .eq 7, 3) := by decide +kernel
theorem dX7_pairOf_45 : decode cX7_pairOf 45 = .ok (.iconst 1, 1) := by decide +kernel
theorem dX7_pairOf_46 : decode cX7_pairOf 46 = .ok (.goto 4, 3) := by decide +kernel
theorem dX7_pairOf_49 : decode cX7_pairOf 49 = .ok (.iconst 2, 1) := by decide +kernel
theorem dX7_pairOf_50 : decode cX7_pairOf 50 = .ok (.ireturn, 1) := by decide +kernel
theorem dX7_hear_0 : decode cX7_hear 0 = .ok (.aload_n 0, 1) := by decide +kernel
theorem dX7_hear_1 : decode cX7_hear 1 = .ok (.iload_n 1, 1) := by decide +kernel
theorem dX7_hear_2 : decode cX7_hear 2 = .ok (.iload_n 2, 1) := by decide +kernel
theorem dX7_hear_3 : decode cX7_hear 3 = .ok (.invokevirtual 178, 3) := by decide +kernel
theorem dX7_hear_6 : decode cX7_hear 6 = .ok (.ifCond .eq 12, 3) := by decide +kernel
theorem dX7_hear_9 : decode cX7_hear 9 = .ok (.iload_n 3, 1) := by decide +kernel
theorem dX7_hear_10 : decode cX7_hear 10 = .ok (.iconst 0, 1) := by decide +kernel
theorem dX7_hear_11 : decode cX7_hear 11 = .ok (.iconst 1, 1) := by decide +kernel
theorem dX7_hear_12 : decode cX7_hear 12 = .ok (.invokestatic 94, 3) := by decide +kernel
theorem dX7_hear_15 : decode cX7_hear 15 = .ok (.ifCond .ne 5, 3) := by decide +kernel
theorem dX7_hear_18 : decode cX7_hear 18 = .ok (.iconst (-1), 1) := by decide +kernel
theorem dX7_hear_19 : decode cX7_hear 19 = .ok (.ireturn, 1) := by decide +kernel
theorem dX7_hear_20 : decode cX7_hear 20 = .ok (.aload_n 0, 1) := by decide +kernel
theorem dX7_hear_21 : decode cX7_hear 21 = .ok (.getfield 13, 3) := by decide +kernel
theorem dX7_hear_24 : decode cX7_hear 24 = .ok (.sipush 420, 3) := by decide +kernel
theorem dX7_hear_27 : decode cX7_hear 27 = .ok (.iload_n 1, 1) := by decide +kernel
theorem dX7_hear_28 : decode cX7_hear 28 = .ok (.iadd, 1) := by decide +kernel
theorem dX7_hear_29 : decode cX7_hear 29 = .ok (.iaload, 1) := by decide +kernel
theorem dX7_hear_30 : decode cX7_hear 30 = .ok (.iload_n 2, 1) := by decide +kernel
theorem dX7_hear_31 : decode cX7_hear 31 = .ok (.invokestatic 105, 3) := by decide +kernel
theorem dX7_hear_34 : decode cX7_hear 34 = .ok (.iload_n 3, 1) := by decide +kernel
theorem dX7_hear_35 : decode cX7_hear 35 = .ok (.iconst 1, 1) := by decide +kernel
theorem dX7_hear_36 : decode cX7_hear 36 = .ok (.if_icmp .ne 7, 3) := by decide +kernel
theorem dX7_hear_39 : decode cX7_hear 39 = .ok (.iconst 1, 1) := by decide +kernel
theorem dX7_hear_40 : decode cX7_hear 40 = .ok (.goto 4, 3) := by decide +kernel
theorem dX7_hear_43 : decode cX7_hear 43 = .ok (.iconst 0, 1) := by decide +kernel
theorem dX7_hear_44 : decode cX7_hear 44 = .ok (.if_icmp .eq 25, 3) := by decide +kernel
theorem dX7_hear_47 : decode cX7_hear 47 = .ok (.iload_n 3, 1) := by decide +kernel
theorem dX7_hear_48 : decode cX7_hear 48 = .ok (.ifCond .ne 24, 3) := by decide +kernel
theorem dX7_hear_51 : decode cX7_hear 51 = .ok (.aload_n 0, 1) := by decide +kernel
theorem dX7_hear_52 : decode cX7_hear 52 = .ok (.iload_n 1, 1) := by decide +kernel
theorem dX7_hear_53 : decode cX7_hear 53 = .ok (.iload_n 2, 1) := by decide +kernel
theorem dX7_hear_54 : decode cX7_hear 54 = .ok (.invokevirtual 187, 3) := by decide +kernel
theorem dX7_hear_57 : decode cX7_hear 57 = .ok (.ifCond .ne 12, 3) := by decide +kernel
theorem dX7_hear_60 : decode cX7_hear 60 = .ok (.aload_n 0, 1) := by decide +kernel
theorem dX7_hear_61 : decode cX7_hear 61 = .ok (.iload_n 2, 1) := by decide +kernel
theorem dX7_hear_62 : decode cX7_hear 62 = .ok (.iload_n 1, 1) := by decide +kernel
theorem dX7_hear_63 : decode cX7_hear 63 = .ok (.invokevirtual 187, 3) := by decide +kernel
theorem dX7_hear_66 : decode cX7_hear 66 = .ok (.ifCond .eq 6, 3) := by decide +kernel
theorem dX7_hear_69 : decode cX7_hear 69 = .ok (.bipush (-2), 2) := by decide +kernel
theorem dX7_hear_71 : decode cX7_hear 71 = .ok (.ireturn, 1) := by decide +kernel
theorem dX7_hear_72 : decode cX7_hear 72 = .ok (.aload_n 0, 1) := by decide +kernel
theorem dX7_hear_73 : decode cX7_hear 73 = .ok (.invokevirtual 181, 3) := by decide +kernel
theorem dX7_hear_76 : decode cX7_hear 76 = .ok (.aload_n 0, 1) := by decide +kernel
theorem dX7_hear_77 : decode cX7_hear 77 = .ok (.getfield 13, 3) := by decide +kernel
theorem dX7_hear_80 : decode cX7_hear 80 = .ok (.sipush 420, 3) := by decide +kernel
theorem dX7_hear_83 : decode cX7_hear 83 = .ok (.iload_n 1, 1) := by decide +kernel
theorem dX7_hear_84 : decode cX7_hear 84 = .ok (.iadd, 1) := by decide +kernel
theorem dX7_hear_85 : decode cX7_hear 85 = .ok (.dup2, 1) := by decide +kernel
theorem dX7_hear_86 : decode cX7_hear 86 = .ok (.iaload, 1) := by decide +kernel
theorem dX7_hear_87 : decode cX7_hear 87 = .ok (.iconst 1, 1) := by decide +kernel
theorem dX7_hear_88 : decode cX7_hear 88 = .ok (.iload_n 2, 1) := by decide +kernel
theorem dX7_hear_89 : decode cX7_hear 89 = .ok (.ishl, 1) := by decide +kernel
theorem dX7_hear_90 : decode cX7_hear 90 = .ok (.ixor, 1) := by decide +kernel
theorem dX7_hear_91 : decode cX7_hear 91 = .ok (.iastore, 1) := by decide +kernel
theorem dX7_hear_92 : decode cX7_hear 92 = .ok (.aload_n 0, 1) := by decide +kernel
theorem dX7_hear_93 : decode cX7_hear 93 = .ok (.getfield 13, 3) := by decide +kernel
theorem dX7_hear_96 : decode cX7_hear 96 = .ok (.sipush 420, 3) := by decide +kernel
theorem dX7_hear_99 : decode cX7_hear 99 = .ok (.iload_n 2, 1) := by decide +kernel
theorem dX7_hear_100 : decode cX7_hear 100 = .ok (.iadd, 1) := by decide +kernel
theorem dX7_hear_101 : decode cX7_hear 101 = .ok (.dup2, 1) := by decide +kernel
theorem dX7_hear_102 : decode cX7_hear 102 = .ok (.iaload, 1) := by decide +kernel
theorem dX7_hear_103 : decode cX7_hear 103 = .ok (.iconst 1, 1) := by decide +kernel
theorem dX7_hear_104 : decode cX7_hear 104 = .ok (.iload_n 1, 1) := by decide +kernel
theorem dX7_hear_105 : decode cX7_hear 105 = .ok (.ishl, 1) := by decide +kernel
theorem dX7_hear_106 : decode cX7_hear 106 = .ok (.ixor, 1) := by decide +kernel
theorem dX7_hear_107 : decode cX7_hear 107 = .ok (.iastore, 1) := by decide +kernel
theorem dX7_hear_108 : decode cX7_hear 108 = .ok (.aload_n 0, 1) := by decide +kernel
theorem dX7_hear_109 : decode cX7_hear 109 = .ok (.iconst 0, 1) := by decide +kernel
theorem dX7_hear_110 : decode cX7_hear 110 = .ok (.invokevirtual 190, 3) := by decide +kernel
theorem dX7_hear_113 : decode cX7_hear 113 = .ok (.ireturn, 1) := by decide +kernel
theorem dX7_draws_0 : decode cX7_draws 0 = .ok (.iload_n 1, 1) := by decide +kernel
theorem dX7_draws_1 : decode cX7_draws 1 = .ok (.iconst 0, 1) := by decide +kernel
theorem dX7_draws_2 : decode cX7_draws 2 = .ok (.sipush 9999, 3) := by decide +kernel
theorem dX7_draws_5 : decode cX7_draws 5 = .ok (.invokestatic 94, 3) := by decide +kernel
theorem dX7_draws_8 : decode cX7_draws 8 = .ok (.ifCond .ne 5, 3) := by decide +kernel
theorem dX7_draws_11 : decode cX7_draws 11 = .ok (.iconst (-1), 1) := by decide +kernel
theorem dX7_draws_12 : decode cX7_draws 12 = .ok (.ireturn, 1) := by decide +kernel
theorem dX7_draws_13 : decode cX7_draws 13 = .ok (.aload_n 0, 1) := by decide +kernel
theorem dX7_draws_14 : decode cX7_draws 14 = .ok (.getfield 13, 3) := by decide +kernel
theorem dX7_draws_17 : decode cX7_draws 17 = .ok (.sipush 428, 3) := by decide +kernel
theorem dX7_draws_20 : decode cX7_draws 20 = .ok (.iaload, 1) := by decide +kernel
theorem dX7_draws_21 : decode cX7_draws 21 = .ok (.istore_n 2, 1) := by decide +kernel
theorem dX7_draws_22 : decode cX7_draws 22 = .ok (.iload_n 2, 1) := by decide +kernel
theorem dX7_draws_23 : decode cX7_draws 23 = .ok (.iload_n 1, 1) := by decide +kernel
theorem dX7_draws_24 : decode cX7_draws 24 = .ok (.if_icmp .ne 6, 3) := by decide +kernel
theorem dX7_draws_27 : decode cX7_draws 27 = .ok (.bipush (-2), 2) := by decide +kernel
theorem dX7_draws_29 : decode cX7_draws 29 = .ok (.ireturn, 1) := by decide +kernel
theorem dX7_draws_30 : decode cX7_draws 30 = .ok (.aload_n 0, 1) := by decide +kernel
theorem dX7_draws_31 : decode cX7_draws 31 = .ok (.invokevirtual 181, 3) := by decide +kernel
theorem dX7_draws_34 : decode cX7_draws 34 = .ok (.aload_n 0, 1) := by decide +kernel
theorem dX7_draws_35 : decode cX7_draws 35 = .ok (.getfield 13, 3) := by decide +kernel
theorem dX7_draws_38 : decode cX7_draws 38 = .ok (.sipush 428, 3) := by decide +kernel
theorem dX7_draws_41 : decode cX7_draws 41 = .ok (.iload_n 1, 1) := by decide +kernel
theorem dX7_draws_42 : decode cX7_draws 42 = .ok (.iastore, 1) := by decide +kernel
theorem dX7_draws_43 : decode cX7_draws 43 = .ok (.iload_n 2, 1) := by decide +kernel
theorem dX7_draws_44 : decode cX7_draws 44 = .ok (.ireturn, 1) := by decide +kernel
theorem dX7_slot_0 : decode cX7_slot 0 = .ok (.iload_n 1, 1) := by decide +kernel
theorem dX7_slot_1 : decode cX7_slot 1 = .ok (.iconst 1, 1) := by decide +kernel
theorem dX7_slot_2 : decode cX7_slot 2 = .ok (.bipush 99, 2) := by decide +kernel
theorem dX7_slot_4 : decode cX7_slot 4 = .ok (.invokestatic 94, 3) := by decide +kernel
theorem dX7_slot_7 : decode cX7_slot 7 = .ok (.ifCond .ne 5, 3) := by decide +kernel
theorem dX7_slot_10 : decode cX7_slot 10 = .ok (.iconst (-1), 1) := by decide +kernel
theorem dX7_slot_11 : decode cX7_slot 11 = .ok (.ireturn, 1) := by decide +kernel
theorem dX7_slot_12 : decode cX7_slot 12 = .ok (.aload_n 0, 1) := by decide +kernel
theorem dX7_slot_13 : decode cX7_slot 13 = .ok (.getfield 13, 3) := by decide +kernel
theorem dX7_slot_16 : decode cX7_slot 16 = .ok (.sipush 426, 3) := by decide +kernel
theorem dX7_slot_19 : decode cX7_slot 19 = .ok (.iaload, 1) := by decide +kernel
theorem dX7_slot_20 : decode cX7_slot 20 = .ok (.iload_n 1, 1) := by decide +kernel
theorem dX7_slot_21 : decode cX7_slot 21 = .ok (.iadd, 1) := by decide +kernel
theorem dX7_slot_22 : decode cX7_slot 22 = .ok (.sipush 9999, 3) := by decide +kernel
theorem dX7_slot_25 : decode cX7_slot 25 = .ok (.if_icmp .le 6, 3) := by decide +kernel
theorem dX7_slot_28 : decode cX7_slot 28 = .ok (.bipush (-2), 2) := by decide +kernel
theorem dX7_slot_30 : decode cX7_slot 30 = .ok (.ireturn, 1) := by decide +kernel
theorem dX7_slot_31 : decode cX7_slot 31 = .ok (.aload_n 0, 1) := by decide +kernel
theorem dX7_slot_32 : decode cX7_slot 32 = .ok (.invokevirtual 181, 3) := by decide +kernel
theorem dX7_slot_35 : decode cX7_slot 35 = .ok (.aload_n 0, 1) := by decide +kernel
theorem dX7_slot_36 : decode cX7_slot 36 = .ok (.iconst 0, 1) := by decide +kernel
theorem dX7_slot_37 : decode cX7_slot 37 = .ok (.iconst 5, 1) := by decide +kernel
theorem dX7_slot_38 : decode cX7_slot 38 = .ok (.invokevirtual 193, 3) := by decide +kernel
theorem dX7_slot_41 : decode cX7_slot 41 = .ok (.istore_n 2, 1) := by decide +kernel
theorem dX7_slot_42 : decode cX7_slot 42 = .ok (.iconst 0, 1) := by decide +kernel
theorem dX7_slot_43 : decode cX7_slot 43 = .ok (.istore_n 3, 1) := by decide +kernel
theorem dX7_slot_44 : decode cX7_slot 44 = .ok (.iload_n 3, 1) := by decide +kernel
theorem dX7_slot_45 : decode cX7_slot 45 = .ok (.iload_n 1, 1) := by decide +kernel
theorem dX7_slot_46 : decode cX7_slot 46 = .ok (.if_icmp .ge 14, 3) := by decide +kernel
theorem dX7_slot_49 : decode cX7_slot 49 = .ok (.aload_n 0, 1) := by decide +kernel
theorem dX7_slot_50 : decode cX7_slot 50 = .ok (.iconst 0, 1) := by decide +kernel
theorem dX7_slot_51 : decode cX7_slot 51 = .ok (.invokevirtual 196, 3) := by decide +kernel
theorem dX7_slot_54 : decode cX7_slot 54 = .ok (.iinc 3 1, 3) := by decide +kernel
theorem dX7_slot_57 : decode cX7_slot 57 = .ok (.goto (-13), 3) := by decide +kernel
theorem dX7_slot_60 : decode cX7_slot 60 = .ok (.aload_n 0, 1) := by decide +kernel
theorem dX7_slot_61 : decode cX7_slot 61 = .ok (.iconst 0, 1) := by decide +kernel
theorem dX7_slot_62 : decode cX7_slot 62 = .ok (.iconst 5, 1) := by decide +kernel
theorem dX7_slot_63 : decode cX7_slot 63 = .ok (.invokevirtual 193, 3) := by decide +kernel
theorem dX7_slot_66 : decode cX7_slot 66 = .ok (.iload_n 2, 1) := by decide +kernel
theorem dX7_slot_67 : decode cX7_slot 67 = .ok (.isub, 1) := by decide +kernel
theorem dX7_slot_68 : decode cX7_slot 68 = .ok (.ireturn, 1) := by decide +kernel
theorem dX7_station_0 : decode cX7_station 0 = .ok (.aload_n 0, 1) := by decide +kernel
theorem dX7_station_1 : decode cX7_station 1 = .ok (.iload_n 1, 1) := by decide +kernel
theorem dX7_station_2 : decode cX7_station 2 = .ok (.invokevirtual 175, 3) := by decide +kernel
theorem dX7_station_5 : decode cX7_station 5 = .ok (.ifCond .eq 13, 3) := by decide +kernel
theorem dX7_station_8 : decode cX7_station 8 = .ok (.iload_n 2, 1) := by decide +kernel
theorem dX7_station_9 : decode cX7_station 9 = .ok (.iconst 0, 1) := by decide +kernel
theorem dX7_station_10 : decode cX7_station 10 = .ok (.bipush 11, 2) := by decide +kernel
theorem dX7_station_12 : decode cX7_station 12 = .ok (.invokestatic 94, 3) := by decide +kernel
theorem dX7_station_15 : decode cX7_station 15 = .ok (.ifCond .ne 5, 3) := by decide +kernel
theorem dX7_station_18 : decode cX7_station 18 = .ok (.iconst (-1), 1) := by decide +kernel
theorem dX7_station_19 : decode cX7_station 19 = .ok (.ireturn, 1) := by decide +kernel
theorem dX7_station_20 : decode cX7_station 20 = .ok (.iconst 0, 1) := by decide +kernel
theorem dX7_station_21 : decode cX7_station 21 = .ok (.iload_n 1, 1) := by decide +kernel
theorem dX7_station_22 : decode cX7_station 22 = .ok (.invokestatic 52, 3) := by decide +kernel
theorem dX7_station_25 : decode cX7_station 25 = .ok (.istore_n 3, 1) := by decide +kernel
theorem dX7_station_26 : decode cX7_station 26 = .ok (.iload_n 2, 1) := by decide +kernel
theorem dX7_station_27 : decode cX7_station 27 = .ok (.tableswitch 192 0 10 #[57, 67, 76, 85, 111, 120, 129, 138, 148, 158, 181], 57) := by decide +kernel
theorem dX7_station_84 : decode cX7_station 84 = .ok (.aload_n 0, 1) := by decide +kernel
theorem dX7_station_85 : decode cX7_station 85 = .ok (.getfield 13, 3) := by decide +kernel
theorem dX7_station_88 : decode cX7_station 88 = .ok (.iload_n 3, 1) := by decide +kernel
theorem dX7_station_89 : decode cX7_station 89 = .ok (.bipush 8, 2) := by decide +kernel
theorem dX7_station_91 : decode cX7_station 91 = .ok (.iadd, 1) := by decide +kernel
theorem dX7_station_92 : decode cX7_station 92 = .ok (.iaload, 1) := by decide +kernel
theorem dX7_station_93 : decode cX7_station 93 = .ok (.ireturn, 1) := by decide +kernel
theorem dX7_station_94 : decode cX7_station 94 = .ok (.aload_n 0, 1) := by decide +kernel
theorem dX7_station_95 : decode cX7_station 95 = .ok (.getfield 13, 3) := by decide +kernel
theorem dX7_station_98 : decode cX7_station 98 = .ok (.iload_n 3, 1) := by decide +kernel
theorem dX7_station_99 : decode cX7_station 99 = .ok (.iconst 0, 1) := by decide +kernel
theorem dX7_station_100 : decode cX7_station 100 = .ok (.iadd, 1) := by decide +kernel
theorem dX7_station_101 : decode cX7_station 101 = .ok (.iaload, 1) := by decide +kernel
theorem dX7_station_102 : decode cX7_station 102 = .ok (.ireturn, 1) := by decide +kernel
theorem dX7_station_103 : decode cX7_station 103 = .ok (.aload_n 0, 1) := by decide +kernel
theorem dX7_station_104 : decode cX7_station 104 = .ok (.getfield 13, 3) := by decide +kernel
theorem dX7_station_107 : decode cX7_station 107 = .ok (.iload_n 3, 1) := by decide +kernel
theorem dX7_station_108 : decode cX7_station 108 = .ok (.iconst 1, 1) := by decide +kernel
theorem dX7_station_109 : decode cX7_station 109 = .ok (.iadd, 1) := by decide +kernel
theorem dX7_station_110 : decode cX7_station 110 = .ok (.iaload, 1) := by decide +kernel
theorem dX7_station_111 : decode cX7_station 111 = .ok (.ireturn, 1) := by decide +kernel
theorem dX7_station_112 : decode cX7_station 112 = .ok (.aload_n 0, 1) := by decide +kernel
theorem dX7_station_113 : decode cX7_station 113 = .ok (.getfield 13, 3) := by decide +kernel
theorem dX7_station_116 : decode cX7_station 116 = .ok (.iload_n 3, 1) := by decide +kernel
theorem dX7_station_117 : decode cX7_station 117 = .ok (.bipush 8, 2) := by decide +kernel
theorem dX7_station_119 : decode cX7_station 119 = .ok (.iadd, 1) := by decide +kernel
theorem dX7_station_120 : decode cX7_station 120 = .ok (.iaload, 1) := by decide +kernel
theorem dX7_station_121 : decode cX7_station 121 = .ok (.ifCond .ne 8, 3) := by decide +kernel
theorem dX7_station_124 : decode cX7_station 124 = .ok (.bipush (-4), 2) := by decide +kernel
theorem dX7_station_126 : decode cX7_station 126 = .ok (.goto 11, 3) := by decide +kernel
theorem dX7_station_129 : decode cX7_station 129 = .ok (.aload_n 0, 1) := by decide +kernel
theorem dX7_station_130 : decode cX7_station 130 = .ok (.getfield 13, 3) := by decide +kernel
theorem dX7_station_133 : decode cX7_station 133 = .ok (.iload_n 3, 1) := by decide +kernel
theorem dX7_station_134 : decode cX7_station 134 = .ok (.iconst 2, 1) := by decide +kernel
theorem dX7_station_135 : decode cX7_station 135 = .ok (.iadd, 1) := by decide +kernel
theorem dX7_station_136 : decode cX7_station 136 = .ok (.iaload, 1) := by decide +kernel
theorem dX7_station_137 : decode cX7_station 137 = .ok (.ireturn, 1) := by decide +kernel
theorem dX7_station_138 : decode cX7_station 138 = .ok (.aload_n 0, 1) := by decide +kernel
theorem dX7_station_139 : decode cX7_station 139 = .ok (.getfield 13, 3) := by decide +kernel
theorem dX7_station_142 : decode cX7_station 142 = .ok (.iload_n 3, 1) := by decide +kernel
theorem dX7_station_143 : decode cX7_station 143 = .ok (.iconst 3, 1) := by decide +kernel
theorem dX7_station_144 : decode cX7_station 144 = .ok (.iadd, 1) := by decide +kernel
theorem dX7_station_145 : decode cX7_station 145 = .ok (.iaload, 1) := by decide +kernel
theorem dX7_station_146 : decode cX7_station 146 = .ok (.ireturn, 1) := by decide +kernel
theorem dX7_station_147 : decode cX7_station 147 = .ok (.aload_n 0, 1) := by decide +kernel
theorem dX7_station_148 : decode cX7_station 148 = .ok (.getfield 13, 3) := by decide +kernel
theorem dX7_station_151 : decode cX7_station 151 = .ok (.iload_n 3, 1) := by decide +kernel
theorem dX7_station_152 : decode cX7_station 152 = .ok (.iconst 4, 1) := by decide +kernel
theorem dX7_station_153 : decode cX7_station 153 = .ok (.iadd, 1) := by decide +kernel
theorem dX7_station_154 : decode cX7_station 154 = .ok (.iaload, 1) := by decide +kernel
theorem dX7_station_155 : decode cX7_station 155 = .ok (.ireturn, 1) := by decide +kernel
theorem dX7_station_156 : decode cX7_station 156 = .ok (.aload_n 0, 1) := by decide +kernel
theorem dX7_station_157 : decode cX7_station 157 = .ok (.getfield 13, 3) := by decide +kernel
theorem dX7_station_160 : decode cX7_station 160 = .ok (.iload_n 3, 1) := by decide +kernel
theorem dX7_station_161 : decode cX7_station 161 = .ok (.iconst 5, 1) := by decide +kernel
theorem dX7_station_162 : decode cX7_station 162 = .ok (.iadd, 1) := by decide +kernel
theorem dX7_station_163 : decode cX7_station 163 = .ok (.iaload, 1) := by decide +kernel
theorem dX7_station_164 : decode cX7_station 164 = .ok (.ireturn, 1) := by decide +kernel
theorem dX7_station_165 : decode cX7_station 165 = .ok (.aload_n 0, 1) := by decide +kernel
theorem dX7_station_166 : decode cX7_station 166 = .ok (.getfield 13, 3) := by decide +kernel
theorem dX7_station_169 : decode cX7_station 169 = .ok (.iload_n 3, 1) := by decide +kernel
theorem dX7_station_170 : decode cX7_station 170 = .ok (.bipush 6, 2) := by decide +kernel
theorem dX7_station_172 : decode cX7_station 172 = .ok (.iadd, 1) := by decide +kernel
theorem dX7_station_173 : decode cX7_station 173 = .ok (.iaload, 1) := by decide +kernel
theorem dX7_station_174 : decode cX7_station 174 = .ok (.ireturn, 1) := by decide +kernel
theorem dX7_station_175 : decode cX7_station 175 = .ok (.aload_n 0, 1) := by decide +kernel
theorem dX7_station_176 : decode cX7_station 176 = .ok (.getfield 13, 3) := by decide +kernel
theorem dX7_station_179 : decode cX7_station 179 = .ok (.iload_n 3, 1) := by decide +kernel
theorem dX7_station_180 : decode cX7_station 180 = .ok (.bipush 7, 2) := by decide +kernel
theorem dX7_station_182 : decode cX7_station 182 = .ok (.iadd, 1) := by decide +kernel
theorem dX7_station_183 : decode cX7_station 183 = .ok (.iaload, 1) := by decide +kernel
theorem dX7_station_184 : decode cX7_station 184 = .ok (.ireturn, 1) := by decide +kernel
theorem dX7_station_185 : decode cX7_station 185 = .ok (.aload_n 0, 1) := by decide +kernel
theorem dX7_station_186 : decode cX7_station 186 = .ok (.iconst 0, 1) := by decide +kernel
theorem dX7_station_187 : decode cX7_station 187 = .ok (.iload_n 1, 1) := by decide +kernel
theorem dX7_station_188 : decode cX7_station 188 = .ok (.aload_n 0, 1) := by decide +kernel
theorem dX7_station_189 : decode cX7_station 189 = .ok (.getfield 13, 3) := by decide +kernel
theorem dX7_station_192 : decode cX7_station 192 = .ok (.sipush 426, 3) := by decide +kernel
theorem dX7_station_195 : decode cX7_station 195 = .ok (.iaload, 1) := by decide +kernel
theorem dX7_station_196 : decode cX7_station 196 = .ok (.iconst 1, 1) := by decide +kernel
theorem dX7_station_197 : decode cX7_station 197 = .ok (.iadd, 1) := by decide +kernel
theorem dX7_station_198 : decode cX7_station 198 = .ok (.invokevirtual 166, 3) := by decide +kernel
theorem dX7_station_201 : decode cX7_station 201 = .ok (.aload_n 0, 1) := by decide +kernel
theorem dX7_station_202 : decode cX7_station 202 = .ok (.getfield 22, 3) := by decide +kernel
theorem dX7_station_205 : decode cX7_station 205 = .ok (.iload_n 1, 1) := by decide +kernel
theorem dX7_station_206 : decode cX7_station 206 = .ok (.iaload, 1) := by decide +kernel
theorem dX7_station_207 : decode cX7_station 207 = .ok (.ireturn, 1) := by decide +kernel
theorem dX7_station_208 : decode cX7_station 208 = .ok (.aload_n 0, 1) := by decide +kernel
theorem dX7_station_209 : decode cX7_station 209 = .ok (.getfield 13, 3) := by decide +kernel
theorem dX7_station_212 : decode cX7_station 212 = .ok (.sipush 420, 3) := by decide +kernel
theorem dX7_station_215 : decode cX7_station 215 = .ok (.iload_n 1, 1) := by decide +kernel
theorem dX7_station_216 : decode cX7_station 216 = .ok (.iadd, 1) := by decide +kernel
theorem dX7_station_217 : decode cX7_station 217 = .ok (.iaload, 1) := by decide +kernel
theorem dX7_station_218 : decode cX7_station 218 = .ok (.ireturn, 1) := by decide +kernel
theorem dX7_station_219 : decode cX7_station 219 = .ok (.aload_n 0, 1) := by decide +kernel
theorem dX7_station_220 : decode cX7_station 220 = .ok (.getfield 13, 3) := by decide +kernel
theorem dX7_station_223 : decode cX7_station 223 = .ok (.iload_n 3, 1) := by decide +kernel
theorem dX7_station_224 : decode cX7_station 224 = .ok (.bipush 26, 2) := by decide +kernel
theorem dX7_station_226 : decode cX7_station 226 = .ok (.iadd, 1) := by decide +kernel
theorem dX7_station_227 : decode cX7_station 227 = .ok (.iaload, 1) := by decide +kernel
theorem dX7_station_228 : decode cX7_station 228 = .ok (.ifCond .le 29, 3) := by decide +kernel
theorem dX7_station_231 : decode cX7_station 231 = .ok (.aload_n 0, 1) := by decide +kernel
theorem dX7_station_232 : decode cX7_station 232 = .ok (.getfield 13, 3) := by decide +kernel
theorem dX7_station_235 : decode cX7_station 235 = .ok (.iload_n 3, 1) := by decide +kernel
theorem dX7_station_236 : decode cX7_station 236 = .ok (.bipush 27, 2) := by decide +kernel
theorem dX7_station_238 : decode cX7_station 238 = .ok (.iadd, 1) := by decide +kernel
theorem dX7_station_239 : decode cX7_station 239 = .ok (.iaload, 1) := by decide +kernel
theorem dX7_station_240 : decode cX7_station 240 = .ok (.aload_n 0, 1) := by decide +kernel
theorem dX7_station_241 : decode cX7_station 241 = .ok (.getfield 13, 3) := by decide +kernel
theorem dX7_station_244 : decode cX7_station 244 = .ok (.sipush 426, 3) := by decide +kernel
theorem dX7_station_247 : decode cX7_station 247 = .ok (.iaload, 1) := by decide +kernel
theorem dX7_station_248 : decode cX7_station 248 = .ok (.iconst 1, 1) := by decide +kernel
theorem dX7_station_249 : decode cX7_station 249 = .ok (.iadd, 1) := by decide +kernel
theorem dX7_station_250 : decode cX7_station 250 = .ok (.if_icmp .ne 7, 3) := by decide +kernel
theorem dX7_station_253 : decode cX7_station 253 = .ok (.iconst 1, 1) := by decide +kernel
theorem dX7_station_254 : decode cX7_station 254 = .ok (.goto 4, 3) := by decide +kernel
theorem dX7_station_257 : decode cX7_station 257 = .ok (.iconst 0, 1) := by decide +kernel
theorem dX7_station_258 : decode cX7_station 258 = .ok (.ireturn, 1) := by decide +kernel
theorem dX7_letterOf_0 : decode cX7_letterOf 0 = .ok (.aload_n 0, 1) := by decide +kernel
theorem dX7_letterOf_1 : decode cX7_letterOf 1 = .ok (.iload_n 1, 1) := by decide +kernel
theorem dX7_letterOf_2 : decode cX7_letterOf 2 = .ok (.invokevirtual 175, 3) := by decide +kernel
theorem dX7_letterOf_5 : decode cX7_letterOf 5 = .ok (.ifCond .eq 16, 3) := by decide +kernel
theorem dX7_letterOf_8 : decode cX7_letterOf 8 = .ok (.iload_n 2, 1) := by decide +kernel
theorem dX7_letterOf_9 : decode cX7_letterOf 9 = .ok (.ifCond .lt 12, 3) := by decide +kernel
theorem dX7_letterOf_12 : decode cX7_letterOf 12 = .ok (.iload_n 3, 1) := by decide +kernel
theorem dX7_letterOf_13 : decode cX7_letterOf 13 = .ok (.iconst 0, 1) := by decide +kernel
theorem dX7_letterOf_14 : decode cX7_letterOf 14 = .ok (.iconst 3, 1) := by decide +kernel
theorem dX7_letterOf_15 : decode cX7_letterOf 15 = .ok (.invokestatic 94, 3) := by decide +kernel
theorem dX7_letterOf_18 : decode cX7_letterOf 18 = .ok (.ifCond .ne 5, 3) := by decide +kernel
theorem dX7_letterOf_21 : decode cX7_letterOf 21 = .ok (.iconst (-1), 1) := by decide +kernel
theorem dX7_letterOf_22 : decode cX7_letterOf 22 = .ok (.ireturn, 1) := by decide +kernel
theorem dX7_letterOf_23 : decode cX7_letterOf 23 = .ok (.iconst 0, 1) := by decide +kernel
theorem dX7_letterOf_24 : decode cX7_letterOf 24 = .ok (.iload_n 1, 1) := by decide +kernel
theorem dX7_letterOf_25 : decode cX7_letterOf 25 = .ok (.invokestatic 52, 3) := by decide +kernel
theorem dX7_letterOf_28 : decode cX7_letterOf 28 = .ok (.istore 4, 2) := by decide +kernel
theorem dX7_letterOf_30 : decode cX7_letterOf 30 = .ok (.iload_n 2, 1) := by decide +kernel
theorem dX7_letterOf_31 : decode cX7_letterOf 31 = .ok (.aload_n 0, 1) := by decide +kernel
theorem dX7_letterOf_32 : decode cX7_letterOf 32 = .ok (.getfield 13, 3) := by decide +kernel
theorem dX7_letterOf_35 : decode cX7_letterOf 35 = .ok (.iload 4, 2) := by decide +kernel
theorem dX7_letterOf_37 : decode cX7_letterOf 37 = .ok (.bipush 8, 2) := by decide +kernel
theorem dX7_letterOf_39 : decode cX7_letterOf 39 = .ok (.iadd, 1) := by decide +kernel
theorem dX7_letterOf_40 : decode cX7_letterOf 40 = .ok (.iaload, 1) := by decide +kernel
theorem dX7_letterOf_41 : decode cX7_letterOf 41 = .ok (.if_icmp .lt 6, 3) := by decide +kernel
theorem dX7_letterOf_44 : decode cX7_letterOf 44 = .ok (.bipush (-4), 2) := by decide +kernel
theorem dX7_letterOf_46 : decode cX7_letterOf 46 = .ok (.ireturn, 1) := by decide +kernel
theorem dX7_letterOf_47 : decode cX7_letterOf 47 = .ok (.aload_n 0, 1) := by decide +kernel
theorem dX7_letterOf_48 : decode cX7_letterOf 48 = .ok (.getfield 13, 3) := by decide +kernel
theorem dX7_letterOf_51 : decode cX7_letterOf 51 = .ok (.iload 4, 2) := by decide +kernel
theorem dX7_letterOf_53 : decode cX7_letterOf 53 = .ok (.bipush 9, 2) := by decide +kernel
theorem dX7_letterOf_55 : decode cX7_letterOf 55 = .ok (.iadd, 1) := by decide +kernel
theorem dX7_letterOf_56 : decode cX7_letterOf 56 = .ok (.iconst 2, 1) := by decide +kernel
theorem dX7_letterOf_57 : decode cX7_letterOf 57 = .ok (.iload_n 2, 1) := by decide +kernel
theorem dX7_letterOf_58 : decode cX7_letterOf 58 = .ok (.imul, 1) := by decide +kernel
theorem dX7_letterOf_59 : decode cX7_letterOf 59 = .ok (.iadd, 1) := by decide +kernel
theorem dX7_letterOf_60 : decode cX7_letterOf 60 = .ok (.iconst 1, 1) := by decide +kernel
theorem dX7_letterOf_61 : decode cX7_letterOf 61 = .ok (.iadd, 1) := by decide +kernel
theorem dX7_letterOf_62 : decode cX7_letterOf 62 = .ok (.iaload, 1) := by decide +kernel
theorem dX7_letterOf_63 : decode cX7_letterOf 63 = .ok (.istore 5, 2) := by decide +kernel
theorem dX7_letterOf_65 : decode cX7_letterOf 65 = .ok (.iload_n 3, 1) := by decide +kernel
theorem dX7_letterOf_66 : decode cX7_letterOf 66 = .ok (.tableswitch 59 0 2 #[26, 41, 44], 26) := by decide +kernel
theorem dX7_letterOf_92 : decode cX7_letterOf 92 = .ok (.aload_n 0, 1) := by decide +kernel
theorem dX7_letterOf_93 : decode cX7_letterOf 93 = .ok (.getfield 13, 3) := by decide +kernel
theorem dX7_letterOf_96 : decode cX7_letterOf 96 = .ok (.iload 4, 2) := by decide +kernel
theorem dX7_letterOf_98 : decode cX7_letterOf 98 = .ok (.bipush 9, 2) := by decide +kernel
theorem dX7_letterOf_100 : decode cX7_letterOf 100 = .ok (.iadd, 1) := by decide +kernel
theorem dX7_letterOf_101 : decode cX7_letterOf 101 = .ok (.iconst 2, 1) := by decide +kernel
theorem dX7_letterOf_102 : decode cX7_letterOf 102 = .ok (.iload_n 2, 1) := by decide +kernel
theorem dX7_letterOf_103 : decode cX7_letterOf 103 = .ok (.imul, 1) := by decide +kernel
theorem dX7_letterOf_104 : decode cX7_letterOf 104 = .ok (.iadd, 1) := by decide +kernel
theorem dX7_letterOf_105 : decode cX7_letterOf 105 = .ok (.iaload, 1) := by decide +kernel
theorem dX7_letterOf_106 : decode cX7_letterOf 106 = .ok (.ireturn, 1) := by decide +kernel
theorem dX7_letterOf_107 : decode cX7_letterOf 107 = .ok (.iload 5, 2) := by decide +kernel
theorem dX7_letterOf_109 : decode cX7_letterOf 109 = .ok (.ireturn, 1) := by decide +kernel
theorem dX7_letterOf_110 : decode cX7_letterOf 110 = .ok (.iload 5, 2) := by decide +kernel
theorem dX7_letterOf_112 : decode cX7_letterOf 112 = .ok (.aload_n 0, 1) := by decide +kernel
theorem dX7_letterOf_113 : decode cX7_letterOf 113 = .ok (.getfield 65, 3) := by decide +kernel
theorem dX7_letterOf_116 : decode cX7_letterOf 116 = .ok (.if_icmp .lt 7, 3) := by decide +kernel
theorem dX7_letterOf_119 : decode cX7_letterOf 119 = .ok (.iconst 1, 1) := by decide +kernel
theorem dX7_letterOf_120 : decode cX7_letterOf 120 = .ok (.goto 4, 3) := by decide +kernel
theorem dX7_letterOf_123 : decode cX7_letterOf 123 = .ok (.iconst 0, 1) := by decide +kernel
theorem dX7_letterOf_124 : decode cX7_letterOf 124 = .ok (.ireturn, 1) := by decide +kernel
theorem dX7_letterOf_125 : decode cX7_letterOf 125 = .ok (.iload_n 2, 1) := by decide +kernel
theorem dX7_letterOf_126 : decode cX7_letterOf 126 = .ok (.ifCond .ne 16, 3) := by decide +kernel
theorem dX7_letterOf_129 : decode cX7_letterOf 129 = .ok (.aload_n 0, 1) := by decide +kernel
theorem dX7_letterOf_130 : decode cX7_letterOf 130 = .ok (.getfield 13, 3) := by decide +kernel
theorem dX7_letterOf_133 : decode cX7_letterOf 133 = .ok (.iload 4, 2) := by decide +kernel
theorem dX7_letterOf_135 : decode cX7_letterOf 135 = .ok (.bipush 28, 2) := by decide +kernel
theorem dX7_letterOf_137 : decode cX7_letterOf 137 = .ok (.iadd, 1) := by decide +kernel
theorem dX7_letterOf_138 : decode cX7_letterOf 138 = .ok (.iaload, 1) := by decide +kernel
theorem dX7_letterOf_139 : decode cX7_letterOf 139 = .ok (.goto 4, 3) := by decide +kernel
theorem dX7_letterOf_142 : decode cX7_letterOf 142 = .ok (.iconst 0, 1) := by decide +kernel
theorem dX7_letterOf_143 : decode cX7_letterOf 143 = .ok (.ireturn, 1) := by decide +kernel
theorem dX7_overheard_0 : decode cX7_overheard 0 = .ok (.aload_n 0, 1) := by decide +kernel
theorem dX7_overheard_1 : decode cX7_overheard 1 = .ok (.iload_n 1, 1) := by decide +kernel
theorem dX7_overheard_2 : decode cX7_overheard 2 = .ok (.invokevirtual 175, 3) := by decide +kernel
theorem dX7_overheard_5 : decode cX7_overheard 5 = .ok (.ifCond .eq 16, 3) := by decide +kernel
theorem dX7_overheard_8 : decode cX7_overheard 8 = .ok (.iload_n 2, 1) := by decide +kernel
theorem dX7_overheard_9 : decode cX7_overheard 9 = .ok (.ifCond .lt 12, 3) := by decide +kernel
theorem dX7_overheard_12 : decode cX7_overheard 12 = .ok (.iload_n 3, 1) := by decide +kernel
theorem dX7_overheard_13 : decode cX7_overheard 13 = .ok (.iconst 0, 1) := by decide +kernel
theorem dX7_overheard_14 : decode cX7_overheard 14 = .ok (.iconst 3, 1) := by decide +kernel
theorem dX7_overheard_15 : decode cX7_overheard 15 = .ok (.invokestatic 94, 3) := by decide +kernel
theorem dX7_overheard_18 : decode cX7_overheard 18 = .ok (.ifCond .ne 5, 3) := by decide +kernel
theorem dX7_overheard_21 : decode cX7_overheard 21 = .ok (.iconst (-1), 1) := by decide +kernel
theorem dX7_overheard_22 : decode cX7_overheard 22 = .ok (.ireturn, 1) := by decide +kernel
theorem dX7_overheard_23 : decode cX7_overheard 23 = .ok (.iconst 0, 1) := by decide +kernel
theorem dX7_overheard_24 : decode cX7_overheard 24 = .ok (.iload_n 1, 1) := by decide +kernel
theorem dX7_overheard_25 : decode cX7_overheard 25 = .ok (.invokestatic 52, 3) := by decide +kernel
theorem dX7_overheard_28 : decode cX7_overheard 28 = .ok (.bipush 33, 2) := by decide +kernel
theorem dX7_overheard_30 : decode cX7_overheard 30 = .ok (.iadd, 1) := by decide +kernel
theorem dX7_overheard_31 : decode cX7_overheard 31 = .ok (.istore 4, 2) := by decide +kernel
theorem dX7_overheard_33 : decode cX7_overheard 33 = .ok (.iload_n 2, 1) := by decide +kernel
theorem dX7_overheard_34 : decode cX7_overheard 34 = .ok (.aload_n 0, 1) := by decide +kernel
theorem dX7_overheard_35 : decode cX7_overheard 35 = .ok (.getfield 13, 3) := by decide +kernel
theorem dX7_overheard_38 : decode cX7_overheard 38 = .ok (.iload 4, 2) := by decide +kernel
theorem dX7_overheard_40 : decode cX7_overheard 40 = .ok (.iaload, 1) := by decide +kernel
theorem dX7_overheard_41 : decode cX7_overheard 41 = .ok (.if_icmp .ge 21, 3) := by decide +kernel
theorem dX7_overheard_44 : decode cX7_overheard 44 = .ok (.aload_n 0, 1) := by decide +kernel
theorem dX7_overheard_45 : decode cX7_overheard 45 = .ok (.getfield 13, 3) := by decide +kernel
theorem dX7_overheard_48 : decode cX7_overheard 48 = .ok (.iload 4, 2) := by decide +kernel
theorem dX7_overheard_50 : decode cX7_overheard 50 = .ok (.iconst 1, 1) := by decide +kernel
theorem dX7_overheard_51 : decode cX7_overheard 51 = .ok (.iadd, 1) := by decide +kernel
theorem dX7_overheard_52 : decode cX7_overheard 52 = .ok (.iconst 4, 1) := by decide +kernel
theorem dX7_overheard_53 : decode cX7_overheard 53 = .ok (.iload_n 2, 1) := by decide +kernel
theorem dX7_overheard_54 : decode cX7_overheard 54 = .ok (.imul, 1) := by decide +kernel
theorem dX7_overheard_55 : decode cX7_overheard 55 = .ok (.iadd, 1) := by decide +kernel
theorem dX7_overheard_56 : decode cX7_overheard 56 = .ok (.iload_n 3, 1) := by decide +kernel
theorem dX7_overheard_57 : decode cX7_overheard 57 = .ok (.iadd, 1) := by decide +kernel
theorem dX7_overheard_58 : decode cX7_overheard 58 = .ok (.iaload, 1) := by decide +kernel
theorem dX7_overheard_59 : decode cX7_overheard 59 = .ok (.goto 5, 3) := by decide +kernel
theorem dX7_overheard_62 : decode cX7_overheard 62 = .ok (.bipush (-4), 2) := by decide +kernel
theorem dX7_overheard_64 : decode cX7_overheard 64 = .ok (.ireturn, 1) := by decide +kernel
theorem dX7_pair_0 : decode cX7_pair 0 = .ok (.aload_n 0, 1) := by decide +kernel
theorem dX7_pair_1 : decode cX7_pair 1 = .ok (.iload_n 1, 1) := by decide +kernel
theorem dX7_pair_2 : decode cX7_pair 2 = .ok (.iload_n 2, 1) := by decide +kernel
theorem dX7_pair_3 : decode cX7_pair 3 = .ok (.invokevirtual 178, 3) := by decide +kernel
theorem dX7_pair_6 : decode cX7_pair 6 = .ok (.ifCond .eq 12, 3) := by decide +kernel
theorem dX7_pair_9 : decode cX7_pair 9 = .ok (.aload_n 0, 1) := by decide +kernel
theorem dX7_pair_10 : decode cX7_pair 10 = .ok (.iload_n 1, 1) := by decide +kernel
theorem dX7_pair_11 : decode cX7_pair 11 = .ok (.iload_n 2, 1) := by decide +kernel
theorem dX7_pair_12 : decode cX7_pair 12 = .ok (.invokevirtual 184, 3) := by decide +kernel
theorem dX7_pair_15 : decode cX7_pair 15 = .ok (.goto 4, 3) := by decide +kernel
theorem dX7_pair_18 : decode cX7_pair 18 = .ok (.iconst (-1), 1) := by decide +kernel
theorem dX7_pair_19 : decode cX7_pair 19 = .ok (.ireturn, 1) := by decide +kernel
theorem dX7_draw_0 : decode cX7_draw 0 = .ok (.aload_n 0, 1) := by decide +kernel
theorem dX7_draw_1 : decode cX7_draw 1 = .ok (.iload_n 1, 1) := by decide +kernel
theorem dX7_draw_2 : decode cX7_draw 2 = .ok (.invokevirtual 175, 3) := by decide +kernel
theorem dX7_draw_5 : decode cX7_draw 5 = .ok (.ifCond .eq 24, 3) := by decide +kernel
theorem dX7_draw_8 : decode cX7_draw 8 = .ok (.iload_n 2, 1) := by decide +kernel
theorem dX7_draw_9 : decode cX7_draw 9 = .ok (.iconst 0, 1) := by decide +kernel
theorem dX7_draw_10 : decode cX7_draw 10 = .ok (.sipush 999, 3) := by decide +kernel
theorem dX7_draw_13 : decode cX7_draw 13 = .ok (.invokestatic 94, 3) := by decide +kernel
theorem dX7_draw_16 : decode cX7_draw 16 = .ok (.ifCond .eq 13, 3) := by decide +kernel
theorem dX7_draw_19 : decode cX7_draw 19 = .ok (.aload_n 0, 1) := by decide +kernel
theorem dX7_draw_20 : decode cX7_draw 20 = .ok (.iconst 0, 1) := by decide +kernel
theorem dX7_draw_21 : decode cX7_draw 21 = .ok (.iload_n 1, 1) := by decide +kernel
theorem dX7_draw_22 : decode cX7_draw 22 = .ok (.iload_n 2, 1) := by decide +kernel
theorem dX7_draw_23 : decode cX7_draw 23 = .ok (.invokevirtual 134, 3) := by decide +kernel
theorem dX7_draw_26 : decode cX7_draw 26 = .ok (.goto 4, 3) := by decide +kernel
theorem dX7_draw_29 : decode cX7_draw 29 = .ok (.iconst (-1), 1) := by decide +kernel
theorem dX7_draw_30 : decode cX7_draw 30 = .ok (.ireturn, 1) := by decide +kernel
theorem dX7_took_0 : decode cX7_took 0 = .ok (.iload_n 1, 1) := by decide +kernel
theorem dX7_took_1 : decode cX7_took 1 = .ok (.iconst 1, 1) := by decide +kernel
theorem dX7_took_2 : decode cX7_took 2 = .ok (.bipush 9, 2) := by decide +kernel
theorem dX7_took_4 : decode cX7_took 4 = .ok (.invokestatic 94, 3) := by decide +kernel
theorem dX7_took_7 : decode cX7_took 7 = .ok (.ifCond .eq 12, 3) := by decide +kernel
theorem dX7_took_10 : decode cX7_took 10 = .ok (.iload_n 2, 1) := by decide +kernel
theorem dX7_took_11 : decode cX7_took 11 = .ok (.iconst 0, 1) := by decide +kernel
theorem dX7_took_12 : decode cX7_took 12 = .ok (.iconst 2, 1) := by decide +kernel
theorem dX7_took_13 : decode cX7_took 13 = .ok (.invokestatic 94, 3) := by decide +kernel
theorem dX7_took_16 : decode cX7_took 16 = .ok (.ifCond .ne 5, 3) := by decide +kernel
theorem dX7_took_19 : decode cX7_took 19 = .ok (.iconst (-1), 1) := by decide +kernel
theorem dX7_took_20 : decode cX7_took 20 = .ok (.ireturn, 1) := by decide +kernel
theorem dX7_took_21 : decode cX7_took 21 = .ok (.iload_n 2, 1) := by decide +kernel
theorem dX7_took_22 : decode cX7_took 22 = .ok (.ifCond .ne 14, 3) := by decide +kernel
theorem dX7_took_25 : decode cX7_took 25 = .ok (.aload_n 0, 1) := by decide +kernel
theorem dX7_took_26 : decode cX7_took 26 = .ok (.getfield 13, 3) := by decide +kernel
theorem dX7_took_29 : decode cX7_took 29 = .ok (.sipush 429, 3) := by decide +kernel
theorem dX7_took_32 : decode cX7_took 32 = .ok (.iload_n 1, 1) := by decide +kernel
theorem dX7_took_33 : decode cX7_took 33 = .ok (.iadd, 1) := by decide +kernel
theorem dX7_took_34 : decode cX7_took 34 = .ok (.iaload, 1) := by decide +kernel
theorem dX7_took_35 : decode cX7_took 35 = .ok (.ireturn, 1) := by decide +kernel
theorem dX7_took_36 : decode cX7_took 36 = .ok (.iload_n 2, 1) := by decide +kernel
theorem dX7_took_37 : decode cX7_took 37 = .ok (.iconst 1, 1) := by decide +kernel
theorem dX7_took_38 : decode cX7_took 38 = .ok (.if_icmp .ne 7, 3) := by decide +kernel
theorem dX7_took_41 : decode cX7_took 41 = .ok (.iconst 1, 1) := by decide +kernel
theorem dX7_took_42 : decode cX7_took 42 = .ok (.goto 4, 3) := by decide +kernel
theorem dX7_took_45 : decode cX7_took 45 = .ok (.iconst (-1), 1) := by decide +kernel
theorem dX7_took_46 : decode cX7_took 46 = .ok (.istore_n 3, 1) := by decide +kernel
theorem dX7_took_47 : decode cX7_took 47 = .ok (.iload_n 1, 1) := by decide +kernel
theorem dX7_took_48 : decode cX7_took 48 = .ok (.istore 4, 2) := by decide +kernel
theorem dX7_took_50 : decode cX7_took 50 = .ok (.iload 4, 2) := by decide +kernel
theorem dX7_took_52 : decode cX7_took 52 = .ok (.iconst 1, 1) := by decide +kernel
theorem dX7_took_53 : decode cX7_took 53 = .ok (.bipush 9, 2) := by decide +kernel
theorem dX7_took_55 : decode cX7_took 55 = .ok (.invokestatic 94, 3) := by decide +kernel
theorem dX7_took_58 : decode cX7_took 58 = .ok (.ifCond .eq 26, 3) := by decide +kernel
theorem dX7_took_61 : decode cX7_took 61 = .ok (.aload_n 0, 1) := by decide +kernel
theorem dX7_took_62 : decode cX7_took 62 = .ok (.getfield 13, 3) := by decide +kernel
theorem dX7_took_65 : decode cX7_took 65 = .ok (.sipush 429, 3) := by decide +kernel
theorem dX7_took_68 : decode cX7_took 68 = .ok (.iload 4, 2) := by decide +kernel
theorem dX7_took_70 : decode cX7_took 70 = .ok (.iadd, 1) := by decide +kernel
theorem dX7_took_71 : decode cX7_took 71 = .ok (.iaload, 1) := by decide +kernel
theorem dX7_took_72 : decode cX7_took 72 = .ok (.ifCond .ne 12, 3) := by decide +kernel
theorem dX7_took_75 : decode cX7_took 75 = .ok (.iload 4, 2) := by decide +kernel
theorem dX7_took_77 : decode cX7_took 77 = .ok (.iload_n 3, 1) := by decide +kernel
theorem dX7_took_78 : decode cX7_took 78 = .ok (.iadd, 1) := by decide +kernel
theorem dX7_took_79 : decode cX7_took 79 = .ok (.istore 4, 2) := by decide +kernel
theorem dX7_took_81 : decode cX7_took 81 = .ok (.goto (-31), 3) := by decide +kernel
theorem dX7_took_84 : decode cX7_took 84 = .ok (.iload 4, 2) := by decide +kernel
theorem dX7_took_86 : decode cX7_took 86 = .ok (.iconst 1, 1) := by decide +kernel
theorem dX7_took_87 : decode cX7_took 87 = .ok (.bipush 9, 2) := by decide +kernel
theorem dX7_took_89 : decode cX7_took 89 = .ok (.invokestatic 94, 3) := by decide +kernel
theorem dX7_took_92 : decode cX7_took 92 = .ok (.ifCond .eq 8, 3) := by decide +kernel
theorem dX7_took_95 : decode cX7_took 95 = .ok (.iload 4, 2) := by decide +kernel
theorem dX7_took_97 : decode cX7_took 97 = .ok (.goto 5, 3) := by decide +kernel
theorem dX7_took_100 : decode cX7_took 100 = .ok (.bipush (-4), 2) := by decide +kernel
theorem dX7_took_102 : decode cX7_took 102 = .ok (.ireturn, 1) := by decide +kernel
theorem dX7_ahead_0 : decode cX7_ahead 0 = .ok (.iload_n 1, 1) := by decide +kernel
theorem dX7_ahead_1 : decode cX7_ahead 1 = .ok (.iconst 1, 1) := by decide +kernel
theorem dX7_ahead_2 : decode cX7_ahead 2 = .ok (.bipush 99, 2) := by decide +kernel
theorem dX7_ahead_4 : decode cX7_ahead 4 = .ok (.invokestatic 94, 3) := by decide +kernel
theorem dX7_ahead_7 : decode cX7_ahead 7 = .ok (.ifCond .eq 12, 3) := by decide +kernel
theorem dX7_ahead_10 : decode cX7_ahead 10 = .ok (.iload_n 2, 1) := by decide +kernel
theorem dX7_ahead_11 : decode cX7_ahead 11 = .ok (.iconst 0, 1) := by decide +kernel
theorem dX7_ahead_12 : decode cX7_ahead 12 = .ok (.iconst 5, 1) := by decide +kernel
theorem dX7_ahead_13 : decode cX7_ahead 13 = .ok (.invokestatic 94, 3) := by decide +kernel
theorem dX7_ahead_16 : decode cX7_ahead 16 = .ok (.ifCond .ne 5, 3) := by decide +kernel
theorem dX7_ahead_19 : decode cX7_ahead 19 = .ok (.iconst (-1), 1) := by decide +kernel
theorem dX7_ahead_20 : decode cX7_ahead 20 = .ok (.ireturn, 1) := by decide +kernel
theorem dX7_ahead_21 : decode cX7_ahead 21 = .ok (.aload_n 0, 1) := by decide +kernel
theorem dX7_ahead_22 : decode cX7_ahead 22 = .ok (.iconst 0, 1) := by decide +kernel
theorem dX7_ahead_23 : decode cX7_ahead 23 = .ok (.iconst 1, 1) := by decide +kernel
theorem dX7_ahead_24 : decode cX7_ahead 24 = .ok (.invokevirtual 71, 3) := by decide +kernel
theorem dX7_ahead_27 : decode cX7_ahead 27 = .ok (.iconst 0, 1) := by decide +kernel
theorem dX7_ahead_28 : decode cX7_ahead 28 = .ok (.istore_n 3, 1) := by decide +kernel
theorem dX7_ahead_29 : decode cX7_ahead 29 = .ok (.iload_n 3, 1) := by decide +kernel
theorem dX7_ahead_30 : decode cX7_ahead 30 = .ok (.iload_n 1, 1) := by decide +kernel
theorem dX7_ahead_31 : decode cX7_ahead 31 = .ok (.if_icmp .ge 14, 3) := by decide +kernel
theorem dX7_ahead_34 : decode cX7_ahead 34 = .ok (.aload_n 0, 1) := by decide +kernel
theorem dX7_ahead_35 : decode cX7_ahead 35 = .ok (.iconst 1, 1) := by decide +kernel
theorem dX7_ahead_36 : decode cX7_ahead 36 = .ok (.invokevirtual 196, 3) := by decide +kernel
theorem dX7_ahead_39 : decode cX7_ahead 39 = .ok (.iinc 3 1, 3) := by decide +kernel
theorem dX7_ahead_42 : decode cX7_ahead 42 = .ok (.goto (-13), 3) := by decide +kernel
theorem dX7_ahead_45 : decode cX7_ahead 45 = .ok (.iload_n 2, 1) := by decide +kernel
theorem dX7_ahead_46 : decode cX7_ahead 46 = .ok (.iconst 3, 1) := by decide +kernel
theorem dX7_ahead_47 : decode cX7_ahead 47 = .ok (.if_icmp .ge 37, 3) := by decide +kernel
theorem dX7_ahead_50 : decode cX7_ahead 50 = .ok (.iload_n 2, 1) := by decide +kernel
theorem dX7_ahead_51 : decode cX7_ahead 51 = .ok (.ifCond .ne 7, 3) := by decide +kernel
theorem dX7_ahead_54 : decode cX7_ahead 54 = .ok (.iconst 5, 1) := by decide +kernel
theorem dX7_ahead_55 : decode cX7_ahead 55 = .ok (.goto 14, 3) := by decide +kernel
theorem dX7_ahead_58 : decode cX7_ahead 58 = .ok (.iload_n 2, 1) := by decide +kernel
theorem dX7_ahead_59 : decode cX7_ahead 59 = .ok (.iconst 1, 1) := by decide +kernel
theorem dX7_ahead_60 : decode cX7_ahead 60 = .ok (.if_icmp .ne 8, 3) := by decide +kernel
theorem dX7_ahead_63 : decode cX7_ahead 63 = .ok (.bipush 6, 2) := by decide +kernel
theorem dX7_ahead_65 : decode cX7_ahead 65 = .ok (.goto 4, 3) := by decide +kernel
theorem dX7_ahead_68 : decode cX7_ahead 68 = .ok (.iconst 4, 1) := by decide +kernel
theorem dX7_ahead_69 : decode cX7_ahead 69 = .ok (.istore_n 3, 1) := by decide +kernel
theorem dX7_ahead_70 : decode cX7_ahead 70 = .ok (.aload_n 0, 1) := by decide +kernel
theorem dX7_ahead_71 : decode cX7_ahead 71 = .ok (.iconst 1, 1) := by decide +kernel
theorem dX7_ahead_72 : decode cX7_ahead 72 = .ok (.iload_n 3, 1) := by decide +kernel
theorem dX7_ahead_73 : decode cX7_ahead 73 = .ok (.invokevirtual 193, 3) := by decide +kernel
theorem dX7_ahead_76 : decode cX7_ahead 76 = .ok (.aload_n 0, 1) := by decide +kernel
theorem dX7_ahead_77 : decode cX7_ahead 77 = .ok (.iconst 0, 1) := by decide +kernel
theorem dX7_ahead_78 : decode cX7_ahead 78 = .ok (.iload_n 3, 1) := by decide +kernel
theorem dX7_ahead_79 : decode cX7_ahead 79 = .ok (.invokevirtual 193, 3) := by decide +kernel
theorem dX7_ahead_82 : decode cX7_ahead 82 = .ok (.isub, 1) := by decide +kernel
theorem dX7_ahead_83 : decode cX7_ahead 83 = .ok (.ireturn, 1) := by decide +kernel
theorem dX7_ahead_84 : decode cX7_ahead 84 = .ok (.iload_n 2, 1) := by decide +kernel
theorem dX7_ahead_85 : decode cX7_ahead 85 = .ok (.iconst 5, 1) := by decide +kernel
theorem dX7_ahead_86 : decode cX7_ahead 86 = .ok (.if_icmp .ne 11, 3) := by decide +kernel
theorem dX7_ahead_89 : decode cX7_ahead 89 = .ok (.aload_n 0, 1) := by decide +kernel
theorem dX7_ahead_90 : decode cX7_ahead 90 = .ok (.iconst 1, 1) := by decide +kernel
theorem dX7_ahead_91 : decode cX7_ahead 91 = .ok (.bipush 8, 2) := by decide +kernel
theorem dX7_ahead_93 : decode cX7_ahead 93 = .ok (.invokevirtual 193, 3) := by decide +kernel
theorem dX7_ahead_96 : decode cX7_ahead 96 = .ok (.ireturn, 1) := by decide +kernel
theorem dX7_ahead_97 : decode cX7_ahead 97 = .ok (.iconst 0, 1) := by decide +kernel
theorem dX7_ahead_98 : decode cX7_ahead 98 = .ok (.istore_n 3, 1) := by decide +kernel
theorem dX7_ahead_99 : decode cX7_ahead 99 = .ok (.iconst 0, 1) := by decide +kernel
theorem dX7_ahead_100 : decode cX7_ahead 100 = .ok (.istore 4, 2) := by decide +kernel
theorem dX7_ahead_102 : decode cX7_ahead 102 = .ok (.iload 4, 2) := by decide +kernel
theorem dX7_ahead_104 : decode cX7_ahead 104 = .ok (.aload_n 0, 1) := by decide +kernel
theorem dX7_ahead_105 : decode cX7_ahead 105 = .ok (.getfield 56, 3) := by decide +kernel
theorem dX7_ahead_108 : decode cX7_ahead 108 = .ok (.if_icmp .ge 70, 3) := by decide +kernel
theorem dX7_ahead_111 : decode cX7_ahead 111 = .ok (.aload_n 0, 1) := by decide +kernel
theorem dX7_ahead_112 : decode cX7_ahead 112 = .ok (.getfield 13, 3) := by decide +kernel
theorem dX7_ahead_115 : decode cX7_ahead 115 = .ok (.iconst 1, 1) := by decide +kernel
theorem dX7_ahead_116 : decode cX7_ahead 116 = .ok (.iload 4, 2) := by decide +kernel
theorem dX7_ahead_118 : decode cX7_ahead 118 = .ok (.invokestatic 52, 3) := by decide +kernel
theorem dX7_ahead_121 : decode cX7_ahead 121 = .ok (.iconst 5, 1) := by decide +kernel
theorem dX7_ahead_122 : decode cX7_ahead 122 = .ok (.iadd, 1) := by decide +kernel
theorem dX7_ahead_123 : decode cX7_ahead 123 = .ok (.iaload, 1) := by decide +kernel
theorem dX7_ahead_124 : decode cX7_ahead 124 = .ok (.aload_n 0, 1) := by decide +kernel
theorem dX7_ahead_125 : decode cX7_ahead 125 = .ok (.getfield 13, 3) := by decide +kernel
theorem dX7_ahead_128 : decode cX7_ahead 128 = .ok (.iconst 0, 1) := by decide +kernel
theorem dX7_ahead_129 : decode cX7_ahead 129 = .ok (.iload 4, 2) := by decide +kernel
theorem dX7_ahead_131 : decode cX7_ahead 131 = .ok (.invokestatic 52, 3) := by decide +kernel
theorem dX7_ahead_134 : decode cX7_ahead 134 = .ok (.iconst 5, 1) := by decide +kernel
theorem dX7_ahead_135 : decode cX7_ahead 135 = .ok (.iadd, 1) := by decide +kernel
theorem dX7_ahead_136 : decode cX7_ahead 136 = .ok (.iaload, 1) := by decide +kernel
theorem dX7_ahead_137 : decode cX7_ahead 137 = .ok (.isub, 1) := by decide +kernel
theorem dX7_ahead_138 : decode cX7_ahead 138 = .ok (.istore 5, 2) := by decide +kernel
theorem dX7_ahead_140 : decode cX7_ahead 140 = .ok (.iload 4, 2) := by decide +kernel
theorem dX7_ahead_142 : decode cX7_ahead 142 = .ok (.ifCond .eq 23, 3) := by decide +kernel
theorem dX7_ahead_145 : decode cX7_ahead 145 = .ok (.iload_n 2, 1) := by decide +kernel
theorem dX7_ahead_146 : decode cX7_ahead 146 = .ok (.iconst 3, 1) := by decide +kernel
theorem dX7_ahead_147 : decode cX7_ahead 147 = .ok (.if_icmp .ne 12, 3) := by decide +kernel
theorem dX7_ahead_150 : decode cX7_ahead 150 = .ok (.iload 5, 2) := by decide +kernel
theorem dX7_ahead_152 : decode cX7_ahead 152 = .ok (.iload_n 3, 1) := by decide +kernel
theorem dX7_ahead_153 : decode cX7_ahead 153 = .ok (.if_icmp .le 17, 3) := by decide +kernel
theorem dX7_ahead_156 : decode cX7_ahead 156 = .ok (.goto 9, 3) := by decide +kernel
theorem dX7_ahead_159 : decode cX7_ahead 159 = .ok (.iload 5, 2) := by decide +kernel
theorem dX7_ahead_161 : decode cX7_ahead 161 = .ok (.iload_n 3, 1) := by decide +kernel
theorem dX7_ahead_162 : decode cX7_ahead 162 = .ok (.if_icmp .ge 8, 3) := by decide +kernel
theorem dX7_ahead_165 : decode cX7_ahead 165 = .ok (.iload 5, 2) := by decide +kernel
theorem dX7_ahead_167 : decode cX7_ahead 167 = .ok (.goto 4, 3) := by decide +kernel
theorem dX7_ahead_170 : decode cX7_ahead 170 = .ok (.iload_n 3, 1) := by decide +kernel
theorem dX7_ahead_171 : decode cX7_ahead 171 = .ok (.istore_n 3, 1) := by decide +kernel
theorem dX7_ahead_172 : decode cX7_ahead 172 = .ok (.iinc 4 1, 3) := by decide +kernel
theorem dX7_ahead_175 : decode cX7_ahead 175 = .ok (.goto (-73), 3) := by decide +kernel
theorem dX7_ahead_178 : decode cX7_ahead 178 = .ok (.iload_n 3, 1) := by decide +kernel
theorem dX7_ahead_179 : decode cX7_ahead 179 = .ok (.ireturn, 1) := by decide +kernel
theorem dX7_soon_0 : decode cX7_soon 0 = .ok (.aload_n 0, 1) := by decide +kernel
end
section
theorem dX7_soon_1 : decode cX7_soon 1 = .ok (.iconst 0, 1) := by decide +kernel
theorem dX7_soon_2 : decode cX7_soon 2 = .ok (.iconst 1, 1) := by decide +kernel
theorem dX7_soon_3 : decode cX7_soon 3 = .ok (.invokevirtual 71, 3) := by decide +kernel
theorem dX7_soon_6 : decode cX7_soon 6 = .ok (.iconst 1, 1) := by decide +kernel
theorem dX7_soon_7 : decode cX7_soon 7 = .ok (.istore_n 1, 1) := by decide +kernel
theorem dX7_soon_8 : decode cX7_soon 8 = .ok (.iload_n 1, 1) := by decide +kernel
theorem dX7_soon_9 : decode cX7_soon 9 = .ok (.bipush 100, 2) := by decide +kernel
theorem dX7_soon_11 : decode cX7_soon 11 = .ok (.if_icmp .ge 31, 3) := by decide +kernel
theorem dX7_soon_14 : decode cX7_soon 14 = .ok (.aload_n 0, 1) := by decide +kernel
theorem dX7_soon_15 : decode cX7_soon 15 = .ok (.iconst 1, 1) := by decide +kernel
theorem dX7_soon_16 : decode cX7_soon 16 = .ok (.invokevirtual 196, 3) := by decide +kernel
theorem dX7_soon_19 : decode cX7_soon 19 = .ok (.aload_n 0, 1) := by decide +kernel
theorem dX7_soon_20 : decode cX7_soon 20 = .ok (.iconst 1, 1) := by decide +kernel
theorem dX7_soon_21 : decode cX7_soon 21 = .ok (.iconst 5, 1) := by decide +kernel
theorem dX7_soon_22 : decode cX7_soon 22 = .ok (.invokevirtual 193, 3) := by decide +kernel
theorem dX7_soon_25 : decode cX7_soon 25 = .ok (.aload_n 0, 1) := by decide +kernel
theorem dX7_soon_26 : decode cX7_soon 26 = .ok (.iconst 0, 1) := by decide +kernel
theorem dX7_soon_27 : decode cX7_soon 27 = .ok (.iconst 5, 1) := by decide +kernel
theorem dX7_soon_28 : decode cX7_soon 28 = .ok (.invokevirtual 193, 3) := by decide +kernel
theorem dX7_soon_31 : decode cX7_soon 31 = .ok (.if_icmp .le 5, 3) := by decide +kernel
theorem dX7_soon_34 : decode cX7_soon 34 = .ok (.iload_n 1, 1) := by decide +kernel
theorem dX7_soon_35 : decode cX7_soon 35 = .ok (.ireturn, 1) := by decide +kernel
theorem dX7_soon_36 : decode cX7_soon 36 = .ok (.iinc 1 1, 3) := by decide +kernel
theorem dX7_soon_39 : decode cX7_soon 39 = .ok (.goto (-31), 3) := by decide +kernel
theorem dX7_soon_42 : decode cX7_soon 42 = .ok (.bipush (-4), 2) := by decide +kernel
theorem dX7_soon_44 : decode cX7_soon 44 = .ok (.ireturn, 1) := by decide +kernel
theorem dX7_count_0 : decode cX7_count 0 = .ok (.iload_n 1, 1) := by decide +kernel
theorem dX7_count_1 : decode cX7_count 1 = .ok (.tableswitch 170 0 14 #[75, 80, 86, 92, 101, 109, 116, 124, 131, 140, 145, 150, 155, 160, 165], 75) := by decide +kernel
theorem dX7_count_76 : decode cX7_count 76 = .ok (.aload_n 0, 1) := by decide +kernel
theorem dX7_count_77 : decode cX7_count 77 = .ok (.getfield 56, 3) := by decide +kernel
theorem dX7_count_80 : decode cX7_count 80 = .ok (.ireturn, 1) := by decide +kernel
theorem dX7_count_81 : decode cX7_count 81 = .ok (.aload_n 0, 1) := by decide +kernel
theorem dX7_count_82 : decode cX7_count 82 = .ok (.iconst 0, 1) := by decide +kernel
theorem dX7_count_83 : decode cX7_count 83 = .ok (.invokevirtual 190, 3) := by decide +kernel
theorem dX7_count_86 : decode cX7_count 86 = .ok (.ireturn, 1) := by decide +kernel
theorem dX7_count_87 : decode cX7_count 87 = .ok (.aload_n 0, 1) := by decide +kernel
theorem dX7_count_88 : decode cX7_count 88 = .ok (.iconst 1, 1) := by decide +kernel
theorem dX7_count_89 : decode cX7_count 89 = .ok (.invokevirtual 190, 3) := by decide +kernel
theorem dX7_count_92 : decode cX7_count 92 = .ok (.ireturn, 1) := by decide +kernel
theorem dX7_count_93 : decode cX7_count 93 = .ok (.aload_n 0, 1) := by decide +kernel
theorem dX7_count_94 : decode cX7_count 94 = .ok (.getfield 13, 3) := by decide +kernel
theorem dX7_count_97 : decode cX7_count 97 = .ok (.sipush 426, 3) := by decide +kernel
theorem dX7_count_100 : decode cX7_count 100 = .ok (.iaload, 1) := by decide +kernel
theorem dX7_count_101 : decode cX7_count 101 = .ok (.ireturn, 1) := by decide +kernel
theorem dX7_count_102 : decode cX7_count 102 = .ok (.aload_n 0, 1) := by decide +kernel
theorem dX7_count_103 : decode cX7_count 103 = .ok (.iconst 0, 1) := by decide +kernel
theorem dX7_count_104 : decode cX7_count 104 = .ok (.bipush 8, 2) := by decide +kernel
theorem dX7_count_106 : decode cX7_count 106 = .ok (.invokevirtual 193, 3) := by decide +kernel
theorem dX7_count_109 : decode cX7_count 109 = .ok (.ireturn, 1) := by decide +kernel
theorem dX7_count_110 : decode cX7_count 110 = .ok (.aload_n 0, 1) := by decide +kernel
theorem dX7_count_111 : decode cX7_count 111 = .ok (.iconst 0, 1) := by decide +kernel
theorem dX7_count_112 : decode cX7_count 112 = .ok (.iconst 5, 1) := by decide +kernel
theorem dX7_count_113 : decode cX7_count 113 = .ok (.invokevirtual 193, 3) := by decide +kernel
theorem dX7_count_116 : decode cX7_count 116 = .ok (.ireturn, 1) := by decide +kernel
theorem dX7_count_117 : decode cX7_count 117 = .ok (.aload_n 0, 1) := by decide +kernel
theorem dX7_count_118 : decode cX7_count 118 = .ok (.iconst 0, 1) := by decide +kernel
theorem dX7_count_119 : decode cX7_count 119 = .ok (.bipush 6, 2) := by decide +kernel
theorem dX7_count_121 : decode cX7_count 121 = .ok (.invokevirtual 193, 3) := by decide +kernel
theorem dX7_count_124 : decode cX7_count 124 = .ok (.ireturn, 1) := by decide +kernel
theorem dX7_count_125 : decode cX7_count 125 = .ok (.aload_n 0, 1) := by decide +kernel
theorem dX7_count_126 : decode cX7_count 126 = .ok (.iconst 0, 1) := by decide +kernel
theorem dX7_count_127 : decode cX7_count 127 = .ok (.iconst 4, 1) := by decide +kernel
theorem dX7_count_128 : decode cX7_count 128 = .ok (.invokevirtual 193, 3) := by decide +kernel
theorem dX7_count_131 : decode cX7_count 131 = .ok (.ireturn, 1) := by decide +kernel
theorem dX7_count_132 : decode cX7_count 132 = .ok (.aload_n 0, 1) := by decide +kernel
theorem dX7_count_133 : decode cX7_count 133 = .ok (.getfield 13, 3) := by decide +kernel
theorem dX7_count_136 : decode cX7_count 136 = .ok (.sipush 428, 3) := by decide +kernel
theorem dX7_count_139 : decode cX7_count 139 = .ok (.iaload, 1) := by decide +kernel
theorem dX7_count_140 : decode cX7_count 140 = .ok (.ireturn, 1) := by decide +kernel
theorem dX7_count_141 : decode cX7_count 141 = .ok (.aload_n 0, 1) := by decide +kernel
theorem dX7_count_142 : decode cX7_count 142 = .ok (.getfield 59, 3) := by decide +kernel
theorem dX7_count_145 : decode cX7_count 145 = .ok (.ireturn, 1) := by decide +kernel
theorem dX7_count_146 : decode cX7_count 146 = .ok (.aload_n 0, 1) := by decide +kernel
theorem dX7_count_147 : decode cX7_count 147 = .ok (.getfield 62, 3) := by decide +kernel
theorem dX7_count_150 : decode cX7_count 150 = .ok (.ireturn, 1) := by decide +kernel
theorem dX7_count_151 : decode cX7_count 151 = .ok (.aload_n 0, 1) := by decide +kernel
theorem dX7_count_152 : decode cX7_count 152 = .ok (.getfield 65, 3) := by decide +kernel
theorem dX7_count_155 : decode cX7_count 155 = .ok (.ireturn, 1) := by decide +kernel
theorem dX7_count_156 : decode cX7_count 156 = .ok (.aload_n 0, 1) := by decide +kernel
theorem dX7_count_157 : decode cX7_count 157 = .ok (.getfield 68, 3) := by decide +kernel
theorem dX7_count_160 : decode cX7_count 160 = .ok (.ireturn, 1) := by decide +kernel
theorem dX7_count_161 : decode cX7_count 161 = .ok (.aload_n 0, 1) := by decide +kernel
theorem dX7_count_162 : decode cX7_count 162 = .ok (.getfield 75, 3) := by decide +kernel
theorem dX7_count_165 : decode cX7_count 165 = .ok (.ireturn, 1) := by decide +kernel
theorem dX7_count_166 : decode cX7_count 166 = .ok (.aload_n 0, 1) := by decide +kernel
theorem dX7_count_167 : decode cX7_count 167 = .ok (.getfield 81, 3) := by decide +kernel
theorem dX7_count_170 : decode cX7_count 170 = .ok (.ireturn, 1) := by decide +kernel
theorem dX7_count_171 : decode cX7_count 171 = .ok (.iconst (-1), 1) := by decide +kernel
theorem dX7_count_172 : decode cX7_count 172 = .ok (.ireturn, 1) := by decide +kernel
theorem dJ6_bitCount_0f7a4_0 : decode cJ6_bitCount_0f7a4 0 = .ok (.iload_n 0, 1) := by decide +kernel
theorem dJ6_bitCount_0f7a4_1 : decode cJ6_bitCount_0f7a4 1 = .ok (.iload_n 0, 1) := by decide +kernel
theorem dJ6_bitCount_0f7a4_2 : decode cJ6_bitCount_0f7a4 2 = .ok (.iconst 1, 1) := by decide +kernel
theorem dJ6_bitCount_0f7a4_3 : decode cJ6_bitCount_0f7a4 3 = .ok (.iushr, 1) := by decide +kernel
theorem dJ6_bitCount_0f7a4_4 : decode cJ6_bitCount_0f7a4 4 = .ok (.ldc_w 265, 3) := by decide +kernel
theorem dJ6_bitCount_0f7a4_7 : decode cJ6_bitCount_0f7a4 7 = .ok (.iand, 1) := by decide +kernel
theorem dJ6_bitCount_0f7a4_8 : decode cJ6_bitCount_0f7a4 8 = .ok (.isub, 1) := by decide +kernel
theorem dJ6_bitCount_0f7a4_9 : decode cJ6_bitCount_0f7a4 9 = .ok (.istore_n 0, 1) := by decide +kernel
theorem dJ6_bitCount_0f7a4_10 : decode cJ6_bitCount_0f7a4 10 = .ok (.iload_n 0, 1) := by decide +kernel
theorem dJ6_bitCount_0f7a4_11 : decode cJ6_bitCount_0f7a4 11 = .ok (.ldc_w 266, 3) := by decide +kernel
theorem dJ6_bitCount_0f7a4_14 : decode cJ6_bitCount_0f7a4 14 = .ok (.iand, 1) := by decide +kernel
theorem dJ6_bitCount_0f7a4_15 : decode cJ6_bitCount_0f7a4 15 = .ok (.iload_n 0, 1) := by decide +kernel
theorem dJ6_bitCount_0f7a4_16 : decode cJ6_bitCount_0f7a4 16 = .ok (.iconst 2, 1) := by decide +kernel
theorem dJ6_bitCount_0f7a4_17 : decode cJ6_bitCount_0f7a4 17 = .ok (.iushr, 1) := by decide +kernel
theorem dJ6_bitCount_0f7a4_18 : decode cJ6_bitCount_0f7a4 18 = .ok (.ldc_w 266, 3) := by decide +kernel
theorem dJ6_bitCount_0f7a4_21 : decode cJ6_bitCount_0f7a4 21 = .ok (.iand, 1) := by decide +kernel
theorem dJ6_bitCount_0f7a4_22 : decode cJ6_bitCount_0f7a4 22 = .ok (.iadd, 1) := by decide +kernel
theorem dJ6_bitCount_0f7a4_23 : decode cJ6_bitCount_0f7a4 23 = .ok (.istore_n 0, 1) := by decide +kernel
theorem dJ6_bitCount_0f7a4_24 : decode cJ6_bitCount_0f7a4 24 = .ok (.iload_n 0, 1) := by decide +kernel
theorem dJ6_bitCount_0f7a4_25 : decode cJ6_bitCount_0f7a4 25 = .ok (.iload_n 0, 1) := by decide +kernel
theorem dJ6_bitCount_0f7a4_26 : decode cJ6_bitCount_0f7a4 26 = .ok (.iconst 4, 1) := by decide +kernel
theorem dJ6_bitCount_0f7a4_27 : decode cJ6_bitCount_0f7a4 27 = .ok (.iushr, 1) := by decide +kernel
theorem dJ6_bitCount_0f7a4_28 : decode cJ6_bitCount_0f7a4 28 = .ok (.iadd, 1) := by decide +kernel
theorem dJ6_bitCount_0f7a4_29 : decode cJ6_bitCount_0f7a4 29 = .ok (.ldc_w 267, 3) := by decide +kernel
theorem dJ6_bitCount_0f7a4_32 : decode cJ6_bitCount_0f7a4 32 = .ok (.iand, 1) := by decide +kernel
theorem dJ6_bitCount_0f7a4_33 : decode cJ6_bitCount_0f7a4 33 = .ok (.istore_n 0, 1) := by decide +kernel
theorem dJ6_bitCount_0f7a4_34 : decode cJ6_bitCount_0f7a4 34 = .ok (.iload_n 0, 1) := by decide +kernel
theorem dJ6_bitCount_0f7a4_35 : decode cJ6_bitCount_0f7a4 35 = .ok (.iload_n 0, 1) := by decide +kernel
theorem dJ6_bitCount_0f7a4_36 : decode cJ6_bitCount_0f7a4 36 = .ok (.bipush 8, 2) := by decide +kernel
theorem dJ6_bitCount_0f7a4_38 : decode cJ6_bitCount_0f7a4 38 = .ok (.iushr, 1) := by decide +kernel
theorem dJ6_bitCount_0f7a4_39 : decode cJ6_bitCount_0f7a4 39 = .ok (.iadd, 1) := by decide +kernel
theorem dJ6_bitCount_0f7a4_40 : decode cJ6_bitCount_0f7a4 40 = .ok (.istore_n 0, 1) := by decide +kernel
theorem dJ6_bitCount_0f7a4_41 : decode cJ6_bitCount_0f7a4 41 = .ok (.iload_n 0, 1) := by decide +kernel
theorem dJ6_bitCount_0f7a4_42 : decode cJ6_bitCount_0f7a4 42 = .ok (.iload_n 0, 1) := by decide +kernel
theorem dJ6_bitCount_0f7a4_43 : decode cJ6_bitCount_0f7a4 43 = .ok (.bipush 16, 2) := by decide +kernel
theorem dJ6_bitCount_0f7a4_45 : decode cJ6_bitCount_0f7a4 45 = .ok (.iushr, 1) := by decide +kernel
theorem dJ6_bitCount_0f7a4_46 : decode cJ6_bitCount_0f7a4 46 = .ok (.iadd, 1) := by decide +kernel
theorem dJ6_bitCount_0f7a4_47 : decode cJ6_bitCount_0f7a4 47 = .ok (.istore_n 0, 1) := by decide +kernel
theorem dJ6_bitCount_0f7a4_48 : decode cJ6_bitCount_0f7a4 48 = .ok (.iload_n 0, 1) := by decide +kernel
theorem dJ6_bitCount_0f7a4_49 : decode cJ6_bitCount_0f7a4 49 = .ok (.bipush 63, 2) := by decide +kernel
theorem dJ6_bitCount_0f7a4_51 : decode cJ6_bitCount_0f7a4 51 = .ok (.iand, 1) := by decide +kernel
theorem dJ6_bitCount_0f7a4_52 : decode cJ6_bitCount_0f7a4 52 = .ok (.ireturn, 1) := by decide +kernel
theorem dJ9_max_7cf53_0 : decode cJ9_max_7cf53 0 = .ok (.iload_n 0, 1) := by decide +kernel
theorem dJ9_max_7cf53_1 : decode cJ9_max_7cf53 1 = .ok (.iload_n 1, 1) := by decide +kernel
theorem dJ9_max_7cf53_2 : decode cJ9_max_7cf53 2 = .ok (.if_icmp .lt 7, 3) := by decide +kernel
theorem dJ9_max_7cf53_5 : decode cJ9_max_7cf53 5 = .ok (.iload_n 0, 1) := by decide +kernel
theorem dJ9_max_7cf53_6 : decode cJ9_max_7cf53 6 = .ok (.goto 4, 3) := by decide +kernel
theorem dJ9_max_7cf53_9 : decode cJ9_max_7cf53 9 = .ok (.iload_n 1, 1) := by decide +kernel
theorem dJ9_max_7cf53_10 : decode cJ9_max_7cf53 10 = .ok (.ireturn, 1) := by decide +kernel
theorem dJ9_min_7cf53_0 : decode cJ9_min_7cf53 0 = .ok (.iload_n 0, 1) := by decide +kernel
theorem dJ9_min_7cf53_1 : decode cJ9_min_7cf53 1 = .ok (.iload_n 1, 1) := by decide +kernel
theorem dJ9_min_7cf53_2 : decode cJ9_min_7cf53 2 = .ok (.if_icmp .gt 7, 3) := by decide +kernel
theorem dJ9_min_7cf53_5 : decode cJ9_min_7cf53 5 = .ok (.iload_n 0, 1) := by decide +kernel
theorem dJ9_min_7cf53_6 : decode cJ9_min_7cf53 6 = .ok (.goto 4, 3) := by decide +kernel
theorem dJ9_min_7cf53_9 : decode cJ9_min_7cf53 9 = .ok (.iload_n 1, 1) := by decide +kernel
theorem dJ9_min_7cf53_10 : decode cJ9_min_7cf53 10 = .ok (.ireturn, 1) := by decide +kernel
theorem dJ0_length_8abf5_0 : decode cJ0_length_8abf5 0 = .ok (.aload_n 0, 1) := by decide +kernel
theorem dJ0_length_8abf5_1 : decode cJ0_length_8abf5 1 = .ok (.getfield 9, 3) := by decide +kernel
theorem dJ0_length_8abf5_4 : decode cJ0_length_8abf5 4 = .ok (.arraylength, 1) := by decide +kernel
theorem dJ0_length_8abf5_5 : decode cJ0_length_8abf5 5 = .ok (.aload_n 0, 1) := by decide +kernel
theorem dJ0_length_8abf5_6 : decode cJ0_length_8abf5 6 = .ok (.invokevirtual 335, 3) := by decide +kernel
theorem dJ0_length_8abf5_9 : decode cJ0_length_8abf5 9 = .ok (.ishr, 1) := by decide +kernel
theorem dJ0_length_8abf5_10 : decode cJ0_length_8abf5 10 = .ok (.ireturn, 1) := by decide +kernel
theorem dJ0_charAt_5068e_0 : decode cJ0_charAt_5068e 0 = .ok (.aload_n 0, 1) := by decide +kernel
theorem dJ0_charAt_5068e_1 : decode cJ0_charAt_5068e 1 = .ok (.invokevirtual 492, 3) := by decide +kernel
theorem dJ0_charAt_5068e_4 : decode cJ0_charAt_5068e 4 = .ok (.ifCond .eq 12, 3) := by decide +kernel
theorem dJ0_charAt_5068e_7 : decode cJ0_charAt_5068e 7 = .ok (.aload_n 0, 1) := by decide +kernel
theorem dJ0_charAt_5068e_8 : decode cJ0_charAt_5068e 8 = .ok (.getfield 9, 3) := by decide +kernel
theorem dJ0_charAt_5068e_11 : decode cJ0_charAt_5068e 11 = .ok (.iload_n 1, 1) := by decide +kernel
theorem dJ0_charAt_5068e_12 : decode cJ0_charAt_5068e 12 = .ok (.invokestatic 495, 3) := by decide +kernel
theorem dJ0_charAt_5068e_15 : decode cJ0_charAt_5068e 15 = .ok (.ireturn, 1) := by decide +kernel
theorem dJ0_charAt_5068e_16 : decode cJ0_charAt_5068e 16 = .ok (.aload_n 0, 1) := by decide +kernel
theorem dJ0_charAt_5068e_17 : decode cJ0_charAt_5068e 17 = .ok (.getfield 9, 3) := by decide +kernel
theorem dJ0_charAt_5068e_20 : decode cJ0_charAt_5068e 20 = .ok (.iload_n 1, 1) := by decide +kernel
theorem dJ0_charAt_5068e_21 : decode cJ0_charAt_5068e 21 = .ok (.invokestatic 498, 3) := by decide +kernel
theorem dJ0_charAt_5068e_24 : decode cJ0_charAt_5068e 24 = .ok (.ireturn, 1) := by decide +kernel
theorem dJ0_coder_7d493_0 : decode cJ0_coder_7d493 0 = .ok (.getstatic 38, 3) := by decide +kernel
theorem dJ0_coder_7d493_3 : decode cJ0_coder_7d493 3 = .ok (.ifCond .eq 10, 3) := by decide +kernel
theorem dJ0_coder_7d493_6 : decode cJ0_coder_7d493 6 = .ok (.aload_n 0, 1) := by decide +kernel
theorem dJ0_coder_7d493_7 : decode cJ0_coder_7d493 7 = .ok (.getfield 15, 3) := by decide +kernel
theorem dJ0_coder_7d493_10 : decode cJ0_coder_7d493 10 = .ok (.goto 4, 3) := by decide +kernel
theorem dJ0_coder_7d493_13 : decode cJ0_coder_7d493 13 = .ok (.iconst 1, 1) := by decide +kernel
theorem dJ0_coder_7d493_14 : decode cJ0_coder_7d493 14 = .ok (.ireturn, 1) := by decide +kernel
theorem dJ0_isLatin1_aae02_0 : decode cJ0_isLatin1_aae02 0 = .ok (.getstatic 38, 3) := by decide +kernel
theorem dJ0_isLatin1_aae02_3 : decode cJ0_isLatin1_aae02 3 = .ok (.ifCond .eq 14, 3) := by decide +kernel
theorem dJ0_isLatin1_aae02_6 : decode cJ0_isLatin1_aae02 6 = .ok (.aload_n 0, 1) := by decide +kernel
theorem dJ0_isLatin1_aae02_7 : decode cJ0_isLatin1_aae02 7 = .ok (.getfield 15, 3) := by decide +kernel
theorem dJ0_isLatin1_aae02_10 : decode cJ0_isLatin1_aae02 10 = .ok (.ifCond .ne 7, 3) := by decide +kernel
theorem dJ0_isLatin1_aae02_13 : decode cJ0_isLatin1_aae02 13 = .ok (.iconst 1, 1) := by decide +kernel
theorem dJ0_isLatin1_aae02_14 : decode cJ0_isLatin1_aae02 14 = .ok (.goto 4, 3) := by decide +kernel
theorem dJ0_isLatin1_aae02_17 : decode cJ0_isLatin1_aae02 17 = .ok (.iconst 0, 1) := by decide +kernel
theorem dJ0_isLatin1_aae02_18 : decode cJ0_isLatin1_aae02 18 = .ok (.ireturn, 1) := by decide +kernel
theorem dJ0_checkIndex_df160_0 : decode cJ0_checkIndex_df160 0 = .ok (.iload_n 0, 1) := by decide +kernel
theorem dJ0_checkIndex_df160_1 : decode cJ0_checkIndex_df160 1 = .ok (.iload_n 1, 1) := by decide +kernel
theorem dJ0_checkIndex_df160_2 : decode cJ0_checkIndex_df160 2 = .ok (.getstatic 1053, 3) := by decide +kernel
theorem dJ0_checkIndex_df160_5 : decode cJ0_checkIndex_df160 5 = .ok (.invokestatic 1059, 3) := by decide +kernel
theorem dJ0_checkIndex_df160_8 : decode cJ0_checkIndex_df160 8 = .ok (.pop, 1) := by decide +kernel
theorem dJ0_checkIndex_df160_9 : decode cJ0_checkIndex_df160 9 = .ok (.return_, 1) := by decide +kernel
theorem dJ1_charAt_3b067_0 : decode cJ1_charAt_3b067 0 = .ok (.iload_n 1, 1) := by decide +kernel
theorem dJ1_charAt_3b067_1 : decode cJ1_charAt_3b067 1 = .ok (.aload_n 0, 1) := by decide +kernel
theorem dJ1_charAt_3b067_2 : decode cJ1_charAt_3b067 2 = .ok (.arraylength, 1) := by decide +kernel
theorem dJ1_charAt_3b067_3 : decode cJ1_charAt_3b067 3 = .ok (.invokestatic 9, 3) := by decide +kernel
theorem dJ1_charAt_3b067_6 : decode cJ1_charAt_3b067 6 = .ok (.aload_n 0, 1) := by decide +kernel
theorem dJ1_charAt_3b067_7 : decode cJ1_charAt_3b067 7 = .ok (.iload_n 1, 1) := by decide +kernel
theorem dJ1_charAt_3b067_8 : decode cJ1_charAt_3b067 8 = .ok (.baload, 1) := by decide +kernel
theorem dJ1_charAt_3b067_9 : decode cJ1_charAt_3b067 9 = .ok (.sipush 255, 3) := by decide +kernel
theorem dJ1_charAt_3b067_12 : decode cJ1_charAt_3b067 12 = .ok (.iand, 1) := by decide +kernel
theorem dJ1_charAt_3b067_13 : decode cJ1_charAt_3b067 13 = .ok (.i2c, 1) := by decide +kernel
theorem dJ1_charAt_3b067_14 : decode cJ1_charAt_3b067 14 = .ok (.ireturn, 1) := by decide +kernel
theorem dJ2_getChar_3b067_0 : decode cJ2_getChar_3b067 0 = .ok (.getstatic 44, 3) := by decide +kernel
theorem dJ2_getChar_3b067_3 : decode cJ2_getChar_3b067 3 = .ok (.ifCond .ne 25, 3) := by decide +kernel
theorem dJ2_getChar_3b067_6 : decode cJ2_getChar_3b067 6 = .ok (.iload_n 1, 1) := by decide +kernel
theorem dJ2_getChar_3b067_7 : decode cJ2_getChar_3b067 7 = .ok (.ifCond .lt 11, 3) := by decide +kernel
theorem dJ2_getChar_3b067_10 : decode cJ2_getChar_3b067 10 = .ok (.iload_n 1, 1) := by decide +kernel
theorem dJ2_getChar_3b067_11 : decode cJ2_getChar_3b067 11 = .ok (.aload_n 0, 1) := by decide +kernel
theorem dJ2_getChar_3b067_12 : decode cJ2_getChar_3b067 12 = .ok (.invokestatic 48, 3) := by decide +kernel
theorem dJ2_getChar_3b067_15 : decode cJ2_getChar_3b067 15 = .ok (.if_icmp .lt 13, 3) := by decide +kernel
theorem dJ2_getChar_3b067_18 : decode cJ2_getChar_3b067 18 = .ok (.new 52, 3) := by decide +kernel
theorem dJ2_getChar_3b067_21 : decode cJ2_getChar_3b067 21 = .ok (.dup, 1) := by decide +kernel
theorem dJ2_getChar_3b067_22 : decode cJ2_getChar_3b067 22 = .ok (.ldc 54, 2) := by decide +kernel
theorem dJ2_getChar_3b067_24 : decode cJ2_getChar_3b067 24 = .ok (.invokespecial 56, 3) := by decide +kernel
theorem dJ2_getChar_3b067_27 : decode cJ2_getChar_3b067 27 = .ok (.athrow, 1) := by decide +kernel
theorem dJ2_getChar_3b067_28 : decode cJ2_getChar_3b067 28 = .ok (.iload_n 1, 1) := by decide +kernel
theorem dJ2_getChar_3b067_29 : decode cJ2_getChar_3b067 29 = .ok (.iconst 1, 1) := by decide +kernel
theorem dJ2_getChar_3b067_30 : decode cJ2_getChar_3b067 30 = .ok (.ishl, 1) := by decide +kernel
theorem dJ2_getChar_3b067_31 : decode cJ2_getChar_3b067 31 = .ok (.istore_n 1, 1) := by decide +kernel
theorem dJ2_getChar_3b067_32 : decode cJ2_getChar_3b067 32 = .ok (.aload_n 0, 1) := by decide +kernel
theorem dJ2_getChar_3b067_33 : decode cJ2_getChar_3b067 33 = .ok (.iload_n 1, 1) := by decide +kernel
theorem dJ2_getChar_3b067_34 : decode cJ2_getChar_3b067 34 = .ok (.iinc 1 1, 3) := by decide +kernel
theorem dJ2_getChar_3b067_37 : decode cJ2_getChar_3b067 37 = .ok (.baload, 1) := by decide +kernel
theorem dJ2_getChar_3b067_38 : decode cJ2_getChar_3b067 38 = .ok (.sipush 255, 3) := by decide +kernel
theorem dJ2_getChar_3b067_41 : decode cJ2_getChar_3b067 41 = .ok (.iand, 1) := by decide +kernel
theorem dJ2_getChar_3b067_42 : decode cJ2_getChar_3b067 42 = .ok (.getstatic 59, 3) := by decide +kernel
theorem dJ2_getChar_3b067_45 : decode cJ2_getChar_3b067 45 = .ok (.ishl, 1) := by decide +kernel
theorem dJ2_getChar_3b067_46 : decode cJ2_getChar_3b067 46 = .ok (.aload_n 0, 1) := by decide +kernel
theorem dJ2_getChar_3b067_47 : decode cJ2_getChar_3b067 47 = .ok (.iload_n 1, 1) := by decide +kernel
theorem dJ2_getChar_3b067_48 : decode cJ2_getChar_3b067 48 = .ok (.baload, 1) := by decide +kernel
theorem dJ2_getChar_3b067_49 : decode cJ2_getChar_3b067 49 = .ok (.sipush 255, 3) := by decide +kernel
theorem dJ2_getChar_3b067_52 : decode cJ2_getChar_3b067 52 = .ok (.iand, 1) := by decide +kernel
theorem dJ2_getChar_3b067_53 : decode cJ2_getChar_3b067 53 = .ok (.getstatic 63, 3) := by decide +kernel
theorem dJ2_getChar_3b067_56 : decode cJ2_getChar_3b067 56 = .ok (.ishl, 1) := by decide +kernel
theorem dJ2_getChar_3b067_57 : decode cJ2_getChar_3b067 57 = .ok (.ior, 1) := by decide +kernel
theorem dJ2_getChar_3b067_58 : decode cJ2_getChar_3b067 58 = .ok (.i2c, 1) := by decide +kernel
theorem dJ2_getChar_3b067_59 : decode cJ2_getChar_3b067 59 = .ok (.ireturn, 1) := by decide +kernel
theorem dJ2_length_9d52b_0 : decode cJ2_length_9d52b 0 = .ok (.aload_n 0, 1) := by decide +kernel
theorem dJ2_length_9d52b_1 : decode cJ2_length_9d52b 1 = .ok (.arraylength, 1) := by decide +kernel
theorem dJ2_length_9d52b_2 : decode cJ2_length_9d52b 2 = .ok (.iconst 1, 1) := by decide +kernel
theorem dJ2_length_9d52b_3 : decode cJ2_length_9d52b 3 = .ok (.ishr, 1) := by decide +kernel
theorem dJ2_length_9d52b_4 : decode cJ2_length_9d52b 4 = .ok (.ireturn, 1) := by decide +kernel
theorem dJ2_charAt_3b067_0 : decode cJ2_charAt_3b067 0 = .ok (.iload_n 1, 1) := by decide +kernel
theorem dJ2_charAt_3b067_1 : decode cJ2_charAt_3b067 1 = .ok (.aload_n 0, 1) := by decide +kernel
theorem dJ2_charAt_3b067_2 : decode cJ2_charAt_3b067 2 = .ok (.invokestatic 67, 3) := by decide +kernel
theorem dJ2_charAt_3b067_5 : decode cJ2_charAt_3b067 5 = .ok (.aload_n 0, 1) := by decide +kernel
theorem dJ2_charAt_3b067_6 : decode cJ2_charAt_3b067 6 = .ok (.iload_n 1, 1) := by decide +kernel
theorem dJ2_charAt_3b067_7 : decode cJ2_charAt_3b067 7 = .ok (.invokestatic 71, 3) := by decide +kernel
theorem dJ2_charAt_3b067_10 : decode cJ2_charAt_3b067 10 = .ok (.ireturn, 1) := by decide +kernel
theorem dJ2_checkIndex_2214a_0 : decode cJ2_checkIndex_2214a 0 = .ok (.iload_n 0, 1) := by decide +kernel
theorem dJ2_checkIndex_2214a_1 : decode cJ2_checkIndex_2214a 1 = .ok (.aload_n 1, 1) := by decide +kernel
theorem dJ2_checkIndex_2214a_2 : decode cJ2_checkIndex_2214a 2 = .ok (.invokestatic 48, 3) := by decide +kernel
theorem dJ2_checkIndex_2214a_5 : decode cJ2_checkIndex_2214a 5 = .ok (.invokestatic 414, 3) := by decide +kernel
theorem dJ2_checkIndex_2214a_8 : decode cJ2_checkIndex_2214a 8 = .ok (.return_, 1) := by decide +kernel
theorem dJ3_checkIndex_8e157_0 : decode cJ3_checkIndex_8e157 0 = .ok (.iload_n 0, 1) := by decide +kernel
theorem dJ3_checkIndex_8e157_1 : decode cJ3_checkIndex_8e157 1 = .ok (.ifCond .lt 8, 3) := by decide +kernel
theorem dJ3_checkIndex_8e157_4 : decode cJ3_checkIndex_8e157 4 = .ok (.iload_n 0, 1) := by decide +kernel
theorem dJ3_checkIndex_8e157_5 : decode cJ3_checkIndex_8e157 5 = .ok (.iload_n 1, 1) := by decide +kernel
theorem dJ3_checkIndex_8e157_6 : decode cJ3_checkIndex_8e157 6 = .ok (.if_icmp .lt 10, 3) := by decide +kernel
theorem dJ3_checkIndex_8e157_9 : decode cJ3_checkIndex_8e157 9 = .ok (.aload_n 2, 1) := by decide +kernel
theorem dJ3_checkIndex_8e157_10 : decode cJ3_checkIndex_8e157 10 = .ok (.iload_n 0, 1) := by decide +kernel
theorem dJ3_checkIndex_8e157_11 : decode cJ3_checkIndex_8e157 11 = .ok (.iload_n 1, 1) := by decide +kernel
theorem dJ3_checkIndex_8e157_12 : decode cJ3_checkIndex_8e157 12 = .ok (.invokestatic 95, 3) := by decide +kernel
theorem dJ3_checkIndex_8e157_15 : decode cJ3_checkIndex_8e157 15 = .ok (.athrow, 1) := by decide +kernel
theorem dJ3_checkIndex_8e157_16 : decode cJ3_checkIndex_8e157 16 = .ok (.iload_n 0, 1) := by decide +kernel
theorem dJ3_checkIndex_8e157_17 : decode cJ3_checkIndex_8e157 17 = .ok (.ireturn, 1) := by decide +kernel
theorem dL_law_0 : decode cL_law 0 = .ok (.new 7, 3) := by decide +kernel
theorem dL_law_3 : decode cL_law 3 = .ok (.dup, 1) := by decide +kernel
theorem dL_law_4 : decode cL_law 4 = .ok (.invokespecial 9, 3) := by decide +kernel
theorem dL_law_7 : decode cL_law 7 = .ok (.astore_n 1, 1) := by decide +kernel
theorem dL_law_8 : decode cL_law 8 = .ok (.new 10, 3) := by decide +kernel
theorem dL_law_11 : decode cL_law 11 = .ok (.dup, 1) := by decide +kernel
theorem dL_law_12 : decode cL_law 12 = .ok (.invokespecial 12, 3) := by decide +kernel
theorem dL_law_15 : decode cL_law 15 = .ok (.astore_n 2, 1) := by decide +kernel
theorem dL_law_16 : decode cL_law 16 = .ok (.iconst 0, 1) := by decide +kernel
theorem dL_law_17 : decode cL_law 17 = .ok (.istore_n 3, 1) := by decide +kernel
theorem dL_law_18 : decode cL_law 18 = .ok (.iload_n 3, 1) := by decide +kernel
theorem dL_law_19 : decode cL_law 19 = .ok (.aload_n 0, 1) := by decide +kernel
theorem dL_law_20 : decode cL_law 20 = .ok (.arraylength, 1) := by decide +kernel
theorem dL_law_21 : decode cL_law 21 = .ok (.iconst 4, 1) := by decide +kernel
theorem dL_law_22 : decode cL_law 22 = .ok (.isub, 1) := by decide +kernel
theorem dL_law_23 : decode cL_law 23 = .ok (.if_icmp .gt 597, 3) := by decide +kernel
theorem dL_law_26 : decode cL_law 26 = .ok (.aload_n 0, 1) := by decide +kernel
theorem dL_law_27 : decode cL_law 27 = .ok (.iload_n 3, 1) := by decide +kernel
theorem dL_law_28 : decode cL_law 28 = .ok (.iaload, 1) := by decide +kernel
theorem dL_law_29 : decode cL_law 29 = .ok (.bipush 31, 2) := by decide +kernel
theorem dL_law_31 : decode cL_law 31 = .ok (.iand, 1) := by decide +kernel
theorem dL_law_32 : decode cL_law 32 = .ok (.tableswitch 582 0 17 #[88, 111, 124, 137, 150, 193, 236, 259, 282, 295, 328, 371, 414, 447, 480, 513, 546, 559], 88) := by decide +kernel
theorem dL_law_120 : decode cL_law 120 = .ok (.aload_n 1, 1) := by decide +kernel
theorem dL_law_121 : decode cL_law 121 = .ok (.aload_n 0, 1) := by decide +kernel
theorem dL_law_122 : decode cL_law 122 = .ok (.iload_n 3, 1) := by decide +kernel
theorem dL_law_123 : decode cL_law 123 = .ok (.iconst 1, 1) := by decide +kernel
theorem dL_law_124 : decode cL_law 124 = .ok (.iadd, 1) := by decide +kernel
theorem dL_law_125 : decode cL_law 125 = .ok (.iaload, 1) := by decide +kernel
theorem dL_law_126 : decode cL_law 126 = .ok (.invokevirtual 13, 3) := by decide +kernel
theorem dL_law_129 : decode cL_law 129 = .ok (.aload_n 2, 1) := by decide +kernel
theorem dL_law_130 : decode cL_law 130 = .ok (.aload_n 0, 1) := by decide +kernel
theorem dL_law_131 : decode cL_law 131 = .ok (.iload_n 3, 1) := by decide +kernel
theorem dL_law_132 : decode cL_law 132 = .ok (.iconst 1, 1) := by decide +kernel
theorem dL_law_133 : decode cL_law 133 = .ok (.iadd, 1) := by decide +kernel
theorem dL_law_134 : decode cL_law 134 = .ok (.iaload, 1) := by decide +kernel
theorem dL_law_135 : decode cL_law 135 = .ok (.invokevirtual 17, 3) := by decide +kernel
theorem dL_law_138 : decode cL_law 138 = .ok (.if_icmp .eq 476, 3) := by decide +kernel
theorem dL_law_141 : decode cL_law 141 = .ok (.iconst 0, 1) := by decide +kernel
theorem dL_law_142 : decode cL_law 142 = .ok (.ireturn, 1) := by decide +kernel
theorem dL_law_143 : decode cL_law 143 = .ok (.aload_n 1, 1) := by decide +kernel
theorem dL_law_144 : decode cL_law 144 = .ok (.invokevirtual 18, 3) := by decide +kernel
theorem dL_law_147 : decode cL_law 147 = .ok (.aload_n 2, 1) := by decide +kernel
theorem dL_law_148 : decode cL_law 148 = .ok (.invokevirtual 22, 3) := by decide +kernel
theorem dL_law_151 : decode cL_law 151 = .ok (.if_icmp .eq 463, 3) := by decide +kernel
theorem dL_law_154 : decode cL_law 154 = .ok (.iconst 0, 1) := by decide +kernel
theorem dL_law_155 : decode cL_law 155 = .ok (.ireturn, 1) := by decide +kernel
theorem dL_law_156 : decode cL_law 156 = .ok (.aload_n 1, 1) := by decide +kernel
theorem dL_law_157 : decode cL_law 157 = .ok (.invokevirtual 23, 3) := by decide +kernel
theorem dL_law_160 : decode cL_law 160 = .ok (.aload_n 2, 1) := by decide +kernel
theorem dL_law_161 : decode cL_law 161 = .ok (.invokevirtual 26, 3) := by decide +kernel
theorem dL_law_164 : decode cL_law 164 = .ok (.if_icmp .eq 450, 3) := by decide +kernel
theorem dL_law_167 : decode cL_law 167 = .ok (.iconst 0, 1) := by decide +kernel
theorem dL_law_168 : decode cL_law 168 = .ok (.ireturn, 1) := by decide +kernel
theorem dL_law_169 : decode cL_law 169 = .ok (.aload_n 1, 1) := by decide +kernel
theorem dL_law_170 : decode cL_law 170 = .ok (.invokevirtual 27, 3) := by decide +kernel
theorem dL_law_173 : decode cL_law 173 = .ok (.aload_n 2, 1) := by decide +kernel
theorem dL_law_174 : decode cL_law 174 = .ok (.invokevirtual 30, 3) := by decide +kernel
theorem dL_law_177 : decode cL_law 177 = .ok (.if_icmp .eq 437, 3) := by decide +kernel
theorem dL_law_180 : decode cL_law 180 = .ok (.iconst 0, 1) := by decide +kernel
theorem dL_law_181 : decode cL_law 181 = .ok (.ireturn, 1) := by decide +kernel
theorem dL_law_182 : decode cL_law 182 = .ok (.aload_n 1, 1) := by decide +kernel
theorem dL_law_183 : decode cL_law 183 = .ok (.aload_n 0, 1) := by decide +kernel
theorem dL_law_184 : decode cL_law 184 = .ok (.iload_n 3, 1) := by decide +kernel
theorem dL_law_185 : decode cL_law 185 = .ok (.iconst 1, 1) := by decide +kernel
theorem dL_law_186 : decode cL_law 186 = .ok (.iadd, 1) := by decide +kernel
theorem dL_law_187 : decode cL_law 187 = .ok (.iaload, 1) := by decide +kernel
theorem dL_law_188 : decode cL_law 188 = .ok (.aload_n 0, 1) := by decide +kernel
theorem dL_law_189 : decode cL_law 189 = .ok (.iload_n 3, 1) := by decide +kernel
theorem dL_law_190 : decode cL_law 190 = .ok (.iconst 2, 1) := by decide +kernel
theorem dL_law_191 : decode cL_law 191 = .ok (.iadd, 1) := by decide +kernel
theorem dL_law_192 : decode cL_law 192 = .ok (.iaload, 1) := by decide +kernel
theorem dL_law_193 : decode cL_law 193 = .ok (.aload_n 0, 1) := by decide +kernel
theorem dL_law_194 : decode cL_law 194 = .ok (.iload_n 3, 1) := by decide +kernel
theorem dL_law_195 : decode cL_law 195 = .ok (.iconst 3, 1) := by decide +kernel
theorem dL_law_196 : decode cL_law 196 = .ok (.iadd, 1) := by decide +kernel
theorem dL_law_197 : decode cL_law 197 = .ok (.iaload, 1) := by decide +kernel
theorem dL_law_198 : decode cL_law 198 = .ok (.invokevirtual 31, 3) := by decide +kernel
theorem dL_law_201 : decode cL_law 201 = .ok (.aload_n 2, 1) := by decide +kernel
theorem dL_law_202 : decode cL_law 202 = .ok (.aload_n 0, 1) := by decide +kernel
theorem dL_law_203 : decode cL_law 203 = .ok (.iload_n 3, 1) := by decide +kernel
theorem dL_law_204 : decode cL_law 204 = .ok (.iconst 1, 1) := by decide +kernel
theorem dL_law_205 : decode cL_law 205 = .ok (.iadd, 1) := by decide +kernel
theorem dL_law_206 : decode cL_law 206 = .ok (.iaload, 1) := by decide +kernel
theorem dL_law_207 : decode cL_law 207 = .ok (.aload_n 0, 1) := by decide +kernel
theorem dL_law_208 : decode cL_law 208 = .ok (.iload_n 3, 1) := by decide +kernel
theorem dL_law_209 : decode cL_law 209 = .ok (.iconst 2, 1) := by decide +kernel
theorem dL_law_210 : decode cL_law 210 = .ok (.iadd, 1) := by decide +kernel
theorem dL_law_211 : decode cL_law 211 = .ok (.iaload, 1) := by decide +kernel
theorem dL_law_212 : decode cL_law 212 = .ok (.aload_n 0, 1) := by decide +kernel
theorem dL_law_213 : decode cL_law 213 = .ok (.iload_n 3, 1) := by decide +kernel
theorem dL_law_214 : decode cL_law 214 = .ok (.iconst 3, 1) := by decide +kernel
theorem dL_law_215 : decode cL_law 215 = .ok (.iadd, 1) := by decide +kernel
theorem dL_law_216 : decode cL_law 216 = .ok (.iaload, 1) := by decide +kernel
theorem dL_law_217 : decode cL_law 217 = .ok (.invokevirtual 35, 3) := by decide +kernel
theorem dL_law_220 : decode cL_law 220 = .ok (.if_icmp .eq 394, 3) := by decide +kernel
theorem dL_law_223 : decode cL_law 223 = .ok (.iconst 0, 1) := by decide +kernel
theorem dL_law_224 : decode cL_law 224 = .ok (.ireturn, 1) := by decide +kernel
theorem dL_law_225 : decode cL_law 225 = .ok (.aload_n 1, 1) := by decide +kernel
theorem dL_law_226 : decode cL_law 226 = .ok (.aload_n 0, 1) := by decide +kernel
theorem dL_law_227 : decode cL_law 227 = .ok (.iload_n 3, 1) := by decide +kernel
theorem dL_law_228 : decode cL_law 228 = .ok (.iconst 1, 1) := by decide +kernel
theorem dL_law_229 : decode cL_law 229 = .ok (.iadd, 1) := by decide +kernel
theorem dL_law_230 : decode cL_law 230 = .ok (.iaload, 1) := by decide +kernel
theorem dL_law_231 : decode cL_law 231 = .ok (.aload_n 0, 1) := by decide +kernel
theorem dL_law_232 : decode cL_law 232 = .ok (.iload_n 3, 1) := by decide +kernel
theorem dL_law_233 : decode cL_law 233 = .ok (.iconst 2, 1) := by decide +kernel
theorem dL_law_234 : decode cL_law 234 = .ok (.iadd, 1) := by decide +kernel
theorem dL_law_235 : decode cL_law 235 = .ok (.iaload, 1) := by decide +kernel
theorem dL_law_236 : decode cL_law 236 = .ok (.aload_n 0, 1) := by decide +kernel
theorem dL_law_237 : decode cL_law 237 = .ok (.iload_n 3, 1) := by decide +kernel
theorem dL_law_238 : decode cL_law 238 = .ok (.iconst 3, 1) := by decide +kernel
theorem dL_law_239 : decode cL_law 239 = .ok (.iadd, 1) := by decide +kernel
theorem dL_law_240 : decode cL_law 240 = .ok (.iaload, 1) := by decide +kernel
theorem dL_law_241 : decode cL_law 241 = .ok (.invokevirtual 36, 3) := by decide +kernel
theorem dL_law_244 : decode cL_law 244 = .ok (.aload_n 2, 1) := by decide +kernel
theorem dL_law_245 : decode cL_law 245 = .ok (.aload_n 0, 1) := by decide +kernel
theorem dL_law_246 : decode cL_law 246 = .ok (.iload_n 3, 1) := by decide +kernel
theorem dL_law_247 : decode cL_law 247 = .ok (.iconst 1, 1) := by decide +kernel
theorem dL_law_248 : decode cL_law 248 = .ok (.iadd, 1) := by decide +kernel
theorem dL_law_249 : decode cL_law 249 = .ok (.iaload, 1) := by decide +kernel
theorem dL_law_250 : decode cL_law 250 = .ok (.aload_n 0, 1) := by decide +kernel
theorem dL_law_251 : decode cL_law 251 = .ok (.iload_n 3, 1) := by decide +kernel
theorem dL_law_252 : decode cL_law 252 = .ok (.iconst 2, 1) := by decide +kernel
theorem dL_law_253 : decode cL_law 253 = .ok (.iadd, 1) := by decide +kernel
theorem dL_law_254 : decode cL_law 254 = .ok (.iaload, 1) := by decide +kernel
theorem dL_law_255 : decode cL_law 255 = .ok (.aload_n 0, 1) := by decide +kernel
theorem dL_law_256 : decode cL_law 256 = .ok (.iload_n 3, 1) := by decide +kernel
theorem dL_law_257 : decode cL_law 257 = .ok (.iconst 3, 1) := by decide +kernel
theorem dL_law_258 : decode cL_law 258 = .ok (.iadd, 1) := by decide +kernel
theorem dL_law_259 : decode cL_law 259 = .ok (.iaload, 1) := by decide +kernel
theorem dL_law_260 : decode cL_law 260 = .ok (.invokevirtual 39, 3) := by decide +kernel
theorem dL_law_263 : decode cL_law 263 = .ok (.if_icmp .eq 351, 3) := by decide +kernel
theorem dL_law_266 : decode cL_law 266 = .ok (.iconst 0, 1) := by decide +kernel
theorem dL_law_267 : decode cL_law 267 = .ok (.ireturn, 1) := by decide +kernel
theorem dL_law_268 : decode cL_law 268 = .ok (.aload_n 1, 1) := by decide +kernel
theorem dL_law_269 : decode cL_law 269 = .ok (.aload_n 0, 1) := by decide +kernel
theorem dL_law_270 : decode cL_law 270 = .ok (.iload_n 3, 1) := by decide +kernel
theorem dL_law_271 : decode cL_law 271 = .ok (.iconst 1, 1) := by decide +kernel
theorem dL_law_272 : decode cL_law 272 = .ok (.iadd, 1) := by decide +kernel
theorem dL_law_273 : decode cL_law 273 = .ok (.iaload, 1) := by decide +kernel
theorem dL_law_274 : decode cL_law 274 = .ok (.invokevirtual 40, 3) := by decide +kernel
theorem dL_law_277 : decode cL_law 277 = .ok (.aload_n 2, 1) := by decide +kernel
theorem dL_law_278 : decode cL_law 278 = .ok (.aload_n 0, 1) := by decide +kernel
theorem dL_law_279 : decode cL_law 279 = .ok (.iload_n 3, 1) := by decide +kernel
theorem dL_law_280 : decode cL_law 280 = .ok (.iconst 1, 1) := by decide +kernel
theorem dL_law_281 : decode cL_law 281 = .ok (.iadd, 1) := by decide +kernel
theorem dL_law_282 : decode cL_law 282 = .ok (.iaload, 1) := by decide +kernel
theorem dL_law_283 : decode cL_law 283 = .ok (.invokevirtual 43, 3) := by decide +kernel
theorem dL_law_286 : decode cL_law 286 = .ok (.if_icmp .eq 328, 3) := by decide +kernel
theorem dL_law_289 : decode cL_law 289 = .ok (.iconst 0, 1) := by decide +kernel
theorem dL_law_290 : decode cL_law 290 = .ok (.ireturn, 1) := by decide +kernel
theorem dL_law_291 : decode cL_law 291 = .ok (.aload_n 1, 1) := by decide +kernel
theorem dL_law_292 : decode cL_law 292 = .ok (.aload_n 0, 1) := by decide +kernel
theorem dL_law_293 : decode cL_law 293 = .ok (.iload_n 3, 1) := by decide +kernel
theorem dL_law_294 : decode cL_law 294 = .ok (.iconst 1, 1) := by decide +kernel
theorem dL_law_295 : decode cL_law 295 = .ok (.iadd, 1) := by decide +kernel
theorem dL_law_296 : decode cL_law 296 = .ok (.iaload, 1) := by decide +kernel
theorem dL_law_297 : decode cL_law 297 = .ok (.invokevirtual 44, 3) := by decide +kernel
theorem dL_law_300 : decode cL_law 300 = .ok (.aload_n 2, 1) := by decide +kernel
theorem dL_law_301 : decode cL_law 301 = .ok (.aload_n 0, 1) := by decide +kernel
theorem dL_law_302 : decode cL_law 302 = .ok (.iload_n 3, 1) := by decide +kernel
theorem dL_law_303 : decode cL_law 303 = .ok (.iconst 1, 1) := by decide +kernel
theorem dL_law_304 : decode cL_law 304 = .ok (.iadd, 1) := by decide +kernel
theorem dL_law_305 : decode cL_law 305 = .ok (.iaload, 1) := by decide +kernel
theorem dL_law_306 : decode cL_law 306 = .ok (.invokevirtual 47, 3) := by decide +kernel
theorem dL_law_309 : decode cL_law 309 = .ok (.if_icmp .eq 305, 3) := by decide +kernel
theorem dL_law_312 : decode cL_law 312 = .ok (.iconst 0, 1) := by decide +kernel
theorem dL_law_313 : decode cL_law 313 = .ok (.ireturn, 1) := by decide +kernel
theorem dL_law_314 : decode cL_law 314 = .ok (.aload_n 1, 1) := by decide +kernel
theorem dL_law_315 : decode cL_law 315 = .ok (.invokevirtual 48, 3) := by decide +kernel
theorem dL_law_318 : decode cL_law 318 = .ok (.aload_n 2, 1) := by decide +kernel
theorem dL_law_319 : decode cL_law 319 = .ok (.invokevirtual 51, 3) := by decide +kernel
theorem dL_law_322 : decode cL_law 322 = .ok (.if_icmp .eq 292, 3) := by decide +kernel
theorem dL_law_325 : decode cL_law 325 = .ok (.iconst 0, 1) := by decide +kernel
theorem dL_law_326 : decode cL_law 326 = .ok (.ireturn, 1) := by decide +kernel
theorem dL_law_327 : decode cL_law 327 = .ok (.aload_n 1, 1) := by decide +kernel
theorem dL_law_328 : decode cL_law 328 = .ok (.aload_n 0, 1) := by decide +kernel
theorem dL_law_329 : decode cL_law 329 = .ok (.iload_n 3, 1) := by decide +kernel
theorem dL_law_330 : decode cL_law 330 = .ok (.iconst 1, 1) := by decide +kernel
theorem dL_law_331 : decode cL_law 331 = .ok (.iadd, 1) := by decide +kernel
theorem dL_law_332 : decode cL_law 332 = .ok (.iaload, 1) := by decide +kernel
theorem dL_law_333 : decode cL_law 333 = .ok (.aload_n 0, 1) := by decide +kernel
theorem dL_law_334 : decode cL_law 334 = .ok (.iload_n 3, 1) := by decide +kernel
theorem dL_law_335 : decode cL_law 335 = .ok (.iconst 2, 1) := by decide +kernel
theorem dL_law_336 : decode cL_law 336 = .ok (.iadd, 1) := by decide +kernel
theorem dL_law_337 : decode cL_law 337 = .ok (.iaload, 1) := by decide +kernel
theorem dL_law_338 : decode cL_law 338 = .ok (.invokevirtual 52, 3) := by decide +kernel
theorem dL_law_341 : decode cL_law 341 = .ok (.aload_n 2, 1) := by decide +kernel
theorem dL_law_342 : decode cL_law 342 = .ok (.aload_n 0, 1) := by decide +kernel
theorem dL_law_343 : decode cL_law 343 = .ok (.iload_n 3, 1) := by decide +kernel
theorem dL_law_344 : decode cL_law 344 = .ok (.iconst 1, 1) := by decide +kernel
theorem dL_law_345 : decode cL_law 345 = .ok (.iadd, 1) := by decide +kernel
theorem dL_law_346 : decode cL_law 346 = .ok (.iaload, 1) := by decide +kernel
theorem dL_law_347 : decode cL_law 347 = .ok (.aload_n 0, 1) := by decide +kernel
theorem dL_law_348 : decode cL_law 348 = .ok (.iload_n 3, 1) := by decide +kernel
theorem dL_law_349 : decode cL_law 349 = .ok (.iconst 2, 1) := by decide +kernel
theorem dL_law_350 : decode cL_law 350 = .ok (.iadd, 1) := by decide +kernel
theorem dL_law_351 : decode cL_law 351 = .ok (.iaload, 1) := by decide +kernel
theorem dL_law_352 : decode cL_law 352 = .ok (.invokevirtual 56, 3) := by decide +kernel
theorem dL_law_355 : decode cL_law 355 = .ok (.if_icmp .eq 259, 3) := by decide +kernel
theorem dL_law_358 : decode cL_law 358 = .ok (.iconst 0, 1) := by decide +kernel
theorem dL_law_359 : decode cL_law 359 = .ok (.ireturn, 1) := by decide +kernel
theorem dL_law_360 : decode cL_law 360 = .ok (.aload_n 1, 1) := by decide +kernel
theorem dL_law_361 : decode cL_law 361 = .ok (.aload_n 0, 1) := by decide +kernel
theorem dL_law_362 : decode cL_law 362 = .ok (.iload_n 3, 1) := by decide +kernel
theorem dL_law_363 : decode cL_law 363 = .ok (.iconst 1, 1) := by decide +kernel
theorem dL_law_364 : decode cL_law 364 = .ok (.iadd, 1) := by decide +kernel
theorem dL_law_365 : decode cL_law 365 = .ok (.iaload, 1) := by decide +kernel
theorem dL_law_366 : decode cL_law 366 = .ok (.aload_n 0, 1) := by decide +kernel
theorem dL_law_367 : decode cL_law 367 = .ok (.iload_n 3, 1) := by decide +kernel
theorem dL_law_368 : decode cL_law 368 = .ok (.iconst 2, 1) := by decide +kernel
theorem dL_law_369 : decode cL_law 369 = .ok (.iadd, 1) := by decide +kernel
theorem dL_law_370 : decode cL_law 370 = .ok (.iaload, 1) := by decide +kernel
theorem dL_law_371 : decode cL_law 371 = .ok (.aload_n 0, 1) := by decide +kernel
theorem dL_law_372 : decode cL_law 372 = .ok (.iload_n 3, 1) := by decide +kernel
theorem dL_law_373 : decode cL_law 373 = .ok (.iconst 3, 1) := by decide +kernel
theorem dL_law_374 : decode cL_law 374 = .ok (.iadd, 1) := by decide +kernel
theorem dL_law_375 : decode cL_law 375 = .ok (.iaload, 1) := by decide +kernel
theorem dL_law_376 : decode cL_law 376 = .ok (.invokevirtual 57, 3) := by decide +kernel
theorem dL_law_379 : decode cL_law 379 = .ok (.aload_n 2, 1) := by decide +kernel
theorem dL_law_380 : decode cL_law 380 = .ok (.aload_n 0, 1) := by decide +kernel
theorem dL_law_381 : decode cL_law 381 = .ok (.iload_n 3, 1) := by decide +kernel
theorem dL_law_382 : decode cL_law 382 = .ok (.iconst 1, 1) := by decide +kernel
theorem dL_law_383 : decode cL_law 383 = .ok (.iadd, 1) := by decide +kernel
theorem dL_law_384 : decode cL_law 384 = .ok (.iaload, 1) := by decide +kernel
theorem dL_law_385 : decode cL_law 385 = .ok (.aload_n 0, 1) := by decide +kernel
theorem dL_law_386 : decode cL_law 386 = .ok (.iload_n 3, 1) := by decide +kernel
theorem dL_law_387 : decode cL_law 387 = .ok (.iconst 2, 1) := by decide +kernel
theorem dL_law_388 : decode cL_law 388 = .ok (.iadd, 1) := by decide +kernel
theorem dL_law_389 : decode cL_law 389 = .ok (.iaload, 1) := by decide +kernel
theorem dL_law_390 : decode cL_law 390 = .ok (.aload_n 0, 1) := by decide +kernel
theorem dL_law_391 : decode cL_law 391 = .ok (.iload_n 3, 1) := by decide +kernel
theorem dL_law_392 : decode cL_law 392 = .ok (.iconst 3, 1) := by decide +kernel
theorem dL_law_393 : decode cL_law 393 = .ok (.iadd, 1) := by decide +kernel
theorem dL_law_394 : decode cL_law 394 = .ok (.iaload, 1) := by decide +kernel
theorem dL_law_395 : decode cL_law 395 = .ok (.invokevirtual 60, 3) := by decide +kernel
theorem dL_law_398 : decode cL_law 398 = .ok (.if_icmp .eq 216, 3) := by decide +kernel
theorem dL_law_401 : decode cL_law 401 = .ok (.iconst 0, 1) := by decide +kernel
theorem dL_law_402 : decode cL_law 402 = .ok (.ireturn, 1) := by decide +kernel
theorem dL_law_403 : decode cL_law 403 = .ok (.aload_n 1, 1) := by decide +kernel
theorem dL_law_404 : decode cL_law 404 = .ok (.aload_n 0, 1) := by decide +kernel
theorem dL_law_405 : decode cL_law 405 = .ok (.iload_n 3, 1) := by decide +kernel
theorem dL_law_406 : decode cL_law 406 = .ok (.iconst 1, 1) := by decide +kernel
theorem dL_law_407 : decode cL_law 407 = .ok (.iadd, 1) := by decide +kernel
theorem dL_law_408 : decode cL_law 408 = .ok (.iaload, 1) := by decide +kernel
theorem dL_law_409 : decode cL_law 409 = .ok (.aload_n 0, 1) := by decide +kernel
theorem dL_law_410 : decode cL_law 410 = .ok (.iload_n 3, 1) := by decide +kernel
theorem dL_law_411 : decode cL_law 411 = .ok (.iconst 2, 1) := by decide +kernel
theorem dL_law_412 : decode cL_law 412 = .ok (.iadd, 1) := by decide +kernel
theorem dL_law_413 : decode cL_law 413 = .ok (.iaload, 1) := by decide +kernel
theorem dL_law_414 : decode cL_law 414 = .ok (.aload_n 0, 1) := by decide +kernel
theorem dL_law_415 : decode cL_law 415 = .ok (.iload_n 3, 1) := by decide +kernel
theorem dL_law_416 : decode cL_law 416 = .ok (.iconst 3, 1) := by decide +kernel
theorem dL_law_417 : decode cL_law 417 = .ok (.iadd, 1) := by decide +kernel
theorem dL_law_418 : decode cL_law 418 = .ok (.iaload, 1) := by decide +kernel
theorem dL_law_419 : decode cL_law 419 = .ok (.invokevirtual 61, 3) := by decide +kernel
theorem dL_law_422 : decode cL_law 422 = .ok (.aload_n 2, 1) := by decide +kernel
theorem dL_law_423 : decode cL_law 423 = .ok (.aload_n 0, 1) := by decide +kernel
theorem dL_law_424 : decode cL_law 424 = .ok (.iload_n 3, 1) := by decide +kernel
theorem dL_law_425 : decode cL_law 425 = .ok (.iconst 1, 1) := by decide +kernel
theorem dL_law_426 : decode cL_law 426 = .ok (.iadd, 1) := by decide +kernel
theorem dL_law_427 : decode cL_law 427 = .ok (.iaload, 1) := by decide +kernel
theorem dL_law_428 : decode cL_law 428 = .ok (.aload_n 0, 1) := by decide +kernel
theorem dL_law_429 : decode cL_law 429 = .ok (.iload_n 3, 1) := by decide +kernel
theorem dL_law_430 : decode cL_law 430 = .ok (.iconst 2, 1) := by decide +kernel
theorem dL_law_431 : decode cL_law 431 = .ok (.iadd, 1) := by decide +kernel
theorem dL_law_432 : decode cL_law 432 = .ok (.iaload, 1) := by decide +kernel
theorem dL_law_433 : decode cL_law 433 = .ok (.aload_n 0, 1) := by decide +kernel
theorem dL_law_434 : decode cL_law 434 = .ok (.iload_n 3, 1) := by decide +kernel
theorem dL_law_435 : decode cL_law 435 = .ok (.iconst 3, 1) := by decide +kernel
theorem dL_law_436 : decode cL_law 436 = .ok (.iadd, 1) := by decide +kernel
theorem dL_law_437 : decode cL_law 437 = .ok (.iaload, 1) := by decide +kernel
theorem dL_law_438 : decode cL_law 438 = .ok (.invokevirtual 64, 3) := by decide +kernel
theorem dL_law_441 : decode cL_law 441 = .ok (.if_icmp .eq 173, 3) := by decide +kernel
theorem dL_law_444 : decode cL_law 444 = .ok (.iconst 0, 1) := by decide +kernel
theorem dL_law_445 : decode cL_law 445 = .ok (.ireturn, 1) := by decide +kernel
theorem dL_law_446 : decode cL_law 446 = .ok (.aload_n 1, 1) := by decide +kernel
theorem dL_law_447 : decode cL_law 447 = .ok (.aload_n 0, 1) := by decide +kernel
theorem dL_law_448 : decode cL_law 448 = .ok (.iload_n 3, 1) := by decide +kernel
theorem dL_law_449 : decode cL_law 449 = .ok (.iconst 1, 1) := by decide +kernel
theorem dL_law_450 : decode cL_law 450 = .ok (.iadd, 1) := by decide +kernel
theorem dL_law_451 : decode cL_law 451 = .ok (.iaload, 1) := by decide +kernel
theorem dL_law_452 : decode cL_law 452 = .ok (.aload_n 0, 1) := by decide +kernel
theorem dL_law_453 : decode cL_law 453 = .ok (.iload_n 3, 1) := by decide +kernel
theorem dL_law_454 : decode cL_law 454 = .ok (.iconst 2, 1) := by decide +kernel
theorem dL_law_455 : decode cL_law 455 = .ok (.iadd, 1) := by decide +kernel
theorem dL_law_456 : decode cL_law 456 = .ok (.iaload, 1) := by decide +kernel
theorem dL_law_457 : decode cL_law 457 = .ok (.invokevirtual 65, 3) := by decide +kernel
theorem dL_law_460 : decode cL_law 460 = .ok (.aload_n 2, 1) := by decide +kernel
theorem dL_law_461 : decode cL_law 461 = .ok (.aload_n 0, 1) := by decide +kernel
theorem dL_law_462 : decode cL_law 462 = .ok (.iload_n 3, 1) := by decide +kernel
theorem dL_law_463 : decode cL_law 463 = .ok (.iconst 1, 1) := by decide +kernel
theorem dL_law_464 : decode cL_law 464 = .ok (.iadd, 1) := by decide +kernel
theorem dL_law_465 : decode cL_law 465 = .ok (.iaload, 1) := by decide +kernel
theorem dL_law_466 : decode cL_law 466 = .ok (.aload_n 0, 1) := by decide +kernel
theorem dL_law_467 : decode cL_law 467 = .ok (.iload_n 3, 1) := by decide +kernel
theorem dL_law_468 : decode cL_law 468 = .ok (.iconst 2, 1) := by decide +kernel
theorem dL_law_469 : decode cL_law 469 = .ok (.iadd, 1) := by decide +kernel
theorem dL_law_470 : decode cL_law 470 = .ok (.iaload, 1) := by decide +kernel
theorem dL_law_471 : decode cL_law 471 = .ok (.invokevirtual 68, 3) := by decide +kernel
theorem dL_law_474 : decode cL_law 474 = .ok (.if_icmp .eq 140, 3) := by decide +kernel
theorem dL_law_477 : decode cL_law 477 = .ok (.iconst 0, 1) := by decide +kernel
theorem dL_law_478 : decode cL_law 478 = .ok (.ireturn, 1) := by decide +kernel
theorem dL_law_479 : decode cL_law 479 = .ok (.aload_n 1, 1) := by decide +kernel
theorem dL_law_480 : decode cL_law 480 = .ok (.aload_n 0, 1) := by decide +kernel
theorem dL_law_481 : decode cL_law 481 = .ok (.iload_n 3, 1) := by decide +kernel
theorem dL_law_482 : decode cL_law 482 = .ok (.iconst 1, 1) := by decide +kernel
theorem dL_law_483 : decode cL_law 483 = .ok (.iadd, 1) := by decide +kernel
theorem dL_law_484 : decode cL_law 484 = .ok (.iaload, 1) := by decide +kernel
theorem dL_law_485 : decode cL_law 485 = .ok (.aload_n 0, 1) := by decide +kernel
theorem dL_law_486 : decode cL_law 486 = .ok (.iload_n 3, 1) := by decide +kernel
theorem dL_law_487 : decode cL_law 487 = .ok (.iconst 2, 1) := by decide +kernel
theorem dL_law_488 : decode cL_law 488 = .ok (.iadd, 1) := by decide +kernel
theorem dL_law_489 : decode cL_law 489 = .ok (.iaload, 1) := by decide +kernel
theorem dL_law_490 : decode cL_law 490 = .ok (.invokevirtual 69, 3) := by decide +kernel
theorem dL_law_493 : decode cL_law 493 = .ok (.aload_n 2, 1) := by decide +kernel
theorem dL_law_494 : decode cL_law 494 = .ok (.aload_n 0, 1) := by decide +kernel
theorem dL_law_495 : decode cL_law 495 = .ok (.iload_n 3, 1) := by decide +kernel
theorem dL_law_496 : decode cL_law 496 = .ok (.iconst 1, 1) := by decide +kernel
theorem dL_law_497 : decode cL_law 497 = .ok (.iadd, 1) := by decide +kernel
theorem dL_law_498 : decode cL_law 498 = .ok (.iaload, 1) := by decide +kernel
theorem dL_law_499 : decode cL_law 499 = .ok (.aload_n 0, 1) := by decide +kernel
theorem dL_law_500 : decode cL_law 500 = .ok (.iload_n 3, 1) := by decide +kernel
theorem dL_law_501 : decode cL_law 501 = .ok (.iconst 2, 1) := by decide +kernel
theorem dL_law_502 : decode cL_law 502 = .ok (.iadd, 1) := by decide +kernel
theorem dL_law_503 : decode cL_law 503 = .ok (.iaload, 1) := by decide +kernel
theorem dL_law_504 : decode cL_law 504 = .ok (.invokevirtual 72, 3) := by decide +kernel
theorem dL_law_507 : decode cL_law 507 = .ok (.if_icmp .eq 107, 3) := by decide +kernel
theorem dL_law_510 : decode cL_law 510 = .ok (.iconst 0, 1) := by decide +kernel
theorem dL_law_511 : decode cL_law 511 = .ok (.ireturn, 1) := by decide +kernel
theorem dL_law_512 : decode cL_law 512 = .ok (.aload_n 1, 1) := by decide +kernel
theorem dL_law_513 : decode cL_law 513 = .ok (.aload_n 0, 1) := by decide +kernel
theorem dL_law_514 : decode cL_law 514 = .ok (.iload_n 3, 1) := by decide +kernel
theorem dL_law_515 : decode cL_law 515 = .ok (.iconst 1, 1) := by decide +kernel
theorem dL_law_516 : decode cL_law 516 = .ok (.iadd, 1) := by decide +kernel
theorem dL_law_517 : decode cL_law 517 = .ok (.iaload, 1) := by decide +kernel
theorem dL_law_518 : decode cL_law 518 = .ok (.aload_n 0, 1) := by decide +kernel
theorem dL_law_519 : decode cL_law 519 = .ok (.iload_n 3, 1) := by decide +kernel
theorem dL_law_520 : decode cL_law 520 = .ok (.iconst 2, 1) := by decide +kernel
theorem dL_law_521 : decode cL_law 521 = .ok (.iadd, 1) := by decide +kernel
theorem dL_law_522 : decode cL_law 522 = .ok (.iaload, 1) := by decide +kernel
theorem dL_law_523 : decode cL_law 523 = .ok (.invokevirtual 73, 3) := by decide +kernel
theorem dL_law_526 : decode cL_law 526 = .ok (.aload_n 2, 1) := by decide +kernel
theorem dL_law_527 : decode cL_law 527 = .ok (.aload_n 0, 1) := by decide +kernel
theorem dL_law_528 : decode cL_law 528 = .ok (.iload_n 3, 1) := by decide +kernel
theorem dL_law_529 : decode cL_law 529 = .ok (.iconst 1, 1) := by decide +kernel
theorem dL_law_530 : decode cL_law 530 = .ok (.iadd, 1) := by decide +kernel
theorem dL_law_531 : decode cL_law 531 = .ok (.iaload, 1) := by decide +kernel
theorem dL_law_532 : decode cL_law 532 = .ok (.aload_n 0, 1) := by decide +kernel
theorem dL_law_533 : decode cL_law 533 = .ok (.iload_n 3, 1) := by decide +kernel
theorem dL_law_534 : decode cL_law 534 = .ok (.iconst 2, 1) := by decide +kernel
theorem dL_law_535 : decode cL_law 535 = .ok (.iadd, 1) := by decide +kernel
theorem dL_law_536 : decode cL_law 536 = .ok (.iaload, 1) := by decide +kernel
theorem dL_law_537 : decode cL_law 537 = .ok (.invokevirtual 76, 3) := by decide +kernel
theorem dL_law_540 : decode cL_law 540 = .ok (.if_icmp .eq 74, 3) := by decide +kernel
theorem dL_law_543 : decode cL_law 543 = .ok (.iconst 0, 1) := by decide +kernel
theorem dL_law_544 : decode cL_law 544 = .ok (.ireturn, 1) := by decide +kernel
theorem dL_law_545 : decode cL_law 545 = .ok (.aload_n 1, 1) := by decide +kernel
theorem dL_law_546 : decode cL_law 546 = .ok (.aload_n 0, 1) := by decide +kernel
theorem dL_law_547 : decode cL_law 547 = .ok (.iload_n 3, 1) := by decide +kernel
theorem dL_law_548 : decode cL_law 548 = .ok (.iconst 1, 1) := by decide +kernel
theorem dL_law_549 : decode cL_law 549 = .ok (.iadd, 1) := by decide +kernel
theorem dL_law_550 : decode cL_law 550 = .ok (.iaload, 1) := by decide +kernel
theorem dL_law_551 : decode cL_law 551 = .ok (.aload_n 0, 1) := by decide +kernel
theorem dL_law_552 : decode cL_law 552 = .ok (.iload_n 3, 1) := by decide +kernel
theorem dL_law_553 : decode cL_law 553 = .ok (.iconst 2, 1) := by decide +kernel
theorem dL_law_554 : decode cL_law 554 = .ok (.iadd, 1) := by decide +kernel
theorem dL_law_555 : decode cL_law 555 = .ok (.iaload, 1) := by decide +kernel
theorem dL_law_556 : decode cL_law 556 = .ok (.invokevirtual 77, 3) := by decide +kernel
theorem dL_law_559 : decode cL_law 559 = .ok (.aload_n 2, 1) := by decide +kernel
theorem dL_law_560 : decode cL_law 560 = .ok (.aload_n 0, 1) := by decide +kernel
theorem dL_law_561 : decode cL_law 561 = .ok (.iload_n 3, 1) := by decide +kernel
theorem dL_law_562 : decode cL_law 562 = .ok (.iconst 1, 1) := by decide +kernel
theorem dL_law_563 : decode cL_law 563 = .ok (.iadd, 1) := by decide +kernel
theorem dL_law_564 : decode cL_law 564 = .ok (.iaload, 1) := by decide +kernel
theorem dL_law_565 : decode cL_law 565 = .ok (.aload_n 0, 1) := by decide +kernel
theorem dL_law_566 : decode cL_law 566 = .ok (.iload_n 3, 1) := by decide +kernel
theorem dL_law_567 : decode cL_law 567 = .ok (.iconst 2, 1) := by decide +kernel
theorem dL_law_568 : decode cL_law 568 = .ok (.iadd, 1) := by decide +kernel
theorem dL_law_569 : decode cL_law 569 = .ok (.iaload, 1) := by decide +kernel
theorem dL_law_570 : decode cL_law 570 = .ok (.invokevirtual 80, 3) := by decide +kernel
theorem dL_law_573 : decode cL_law 573 = .ok (.if_icmp .eq 41, 3) := by decide +kernel
theorem dL_law_576 : decode cL_law 576 = .ok (.iconst 0, 1) := by decide +kernel
theorem dL_law_577 : decode cL_law 577 = .ok (.ireturn, 1) := by decide +kernel
theorem dL_law_578 : decode cL_law 578 = .ok (.aload_n 1, 1) := by decide +kernel
theorem dL_law_579 : decode cL_law 579 = .ok (.invokevirtual 81, 3) := by decide +kernel
theorem dL_law_582 : decode cL_law 582 = .ok (.aload_n 2, 1) := by decide +kernel
theorem dL_law_583 : decode cL_law 583 = .ok (.invokevirtual 84, 3) := by decide +kernel
theorem dL_law_586 : decode cL_law 586 = .ok (.if_icmp .eq 28, 3) := by decide +kernel
theorem dL_law_589 : decode cL_law 589 = .ok (.iconst 0, 1) := by decide +kernel
theorem dL_law_590 : decode cL_law 590 = .ok (.ireturn, 1) := by decide +kernel
theorem dL_law_591 : decode cL_law 591 = .ok (.aload_n 1, 1) := by decide +kernel
theorem dL_law_592 : decode cL_law 592 = .ok (.aload_n 0, 1) := by decide +kernel
theorem dL_law_593 : decode cL_law 593 = .ok (.iload_n 3, 1) := by decide +kernel
theorem dL_law_594 : decode cL_law 594 = .ok (.iconst 1, 1) := by decide +kernel
theorem dL_law_595 : decode cL_law 595 = .ok (.iadd, 1) := by decide +kernel
theorem dL_law_596 : decode cL_law 596 = .ok (.iaload, 1) := by decide +kernel
theorem dL_law_597 : decode cL_law 597 = .ok (.invokevirtual 85, 3) := by decide +kernel
theorem dL_law_600 : decode cL_law 600 = .ok (.aload_n 2, 1) := by decide +kernel
theorem dL_law_601 : decode cL_law 601 = .ok (.aload_n 0, 1) := by decide +kernel
theorem dL_law_602 : decode cL_law 602 = .ok (.iload_n 3, 1) := by decide +kernel
theorem dL_law_603 : decode cL_law 603 = .ok (.iconst 1, 1) := by decide +kernel
theorem dL_law_604 : decode cL_law 604 = .ok (.iadd, 1) := by decide +kernel
theorem dL_law_605 : decode cL_law 605 = .ok (.iaload, 1) := by decide +kernel
theorem dL_law_606 : decode cL_law 606 = .ok (.invokevirtual 88, 3) := by decide +kernel
theorem dL_law_609 : decode cL_law 609 = .ok (.if_icmp .eq 5, 3) := by decide +kernel
theorem dL_law_612 : decode cL_law 612 = .ok (.iconst 0, 1) := by decide +kernel
theorem dL_law_613 : decode cL_law 613 = .ok (.ireturn, 1) := by decide +kernel
theorem dL_law_614 : decode cL_law 614 = .ok (.iinc 3 4, 3) := by decide +kernel
theorem dL_law_617 : decode cL_law 617 = .ok (.goto (-599), 3) := by decide +kernel
theorem dL_law_620 : decode cL_law 620 = .ok (.iconst 1, 1) := by decide +kernel
theorem dL_law_621 : decode cL_law 621 = .ok (.ireturn, 1) := by decide +kernel
end
section
/-! THE MACHINE AS SEEN FROM HERE: objects have numbers (0, 1, ..), their shapes never change, their ints are a function; AW: from this place of a method on, with these locals, this stack and these ints, the method comes to its end, with Q of its answer (0 where it is void) and the ints then. -/
abbrev Mem : Type := Nat → Nat → Int32
abbrev Shp : Type := List (Nat × Nat × List (Option Nat))
abbrev Mt : Type := MethodName × ByteArray × Nat × Option FieldType × Nat × Nat
def up2 (μ : Mem) (o k : Nat) (v : Int32) : Mem := fun o' => if o' = o then upd (μ o') k v else μ o'
def upA (μ : Mem) (o : Nat) (f : Nat → Int32) : Mem := fun o' => if o' = o then f else μ o'
theorem up2_eq (μ : Mem) (o k : Nat) (v : Int32) : up2 μ o k v = upA μ o (upd (μ o) k v) := by
  funext o'; unfold up2 upA; by_cases h : o' = o
  · rw [if_pos h, if_pos h, h]
  · rw [if_neg h, if_neg h]
def hs_word (w : Cond) : Bool := w.onTables && w.keeps
def Fx (U : State) : Prop := (∀ w ∈ lw_tbl, hs_word w = true → w.before #[] U = true) ∧ va_Nw (.methodLinkNest RX2 96 yX6_drawnNumber "HeardSlots") U
theorem Fx.use {U : State} (h : Fx U) {w : Cond} (hw : w ∈ lw_tbl) (hg : hs_word w = true) (A : Array Value) : w.before A U = true :=
  va_tabs (by have h2 := hg; unfold hs_word at h2; rw [Bool.and_eq_true] at h2; exact h2.1) rfl (h.1 w hw hg)
theorem Fx.warm {s U : State} (h : Fx s) (hW : s.WarmedH U.vm) : Fx U :=
  ⟨fun w hw hg => word_at hW (Or.inl hg) (h.use hw hg #[]), va_Nw.warmM hW h.2⟩
theorem Fx.same {u U : State} (h : Fx u) (e : u.vm = U.vm) : Fx U :=
  ⟨fun w hw hg => va_tabs (by have h2 := hg; unfold hs_word at h2; rw [Bool.and_eq_true] at h2; exact h2.1) e (h.1 w hw hg), va_Nw.same rfl e h.2⟩
def cvl (σ : Nat → Nat) : Value → Value
  | .ref a => .ref (σ a)
  | v => v
theorem cvl_cat (σ : Nat → Nat) (v : Value) : (cvl σ v).category = v.category := by cases v <;> rfl
def sfv (σ : Nat → Nat) (f : Nat → Int32) (j : Nat) (r : Option Nat) : Value := match r with
  | none => .int (f j)
  | some a => .ref (σ a)
def cel (σ : Nat → Nat) (cA : Nat → ClassId) (f : Nat → Int32) (x : Nat × Nat × List (Option Nat)) : va_E :=
  if x.1 < 100 then .inr (x.1, x.2.2.mapIdx (sfv σ f)) else if x.1 < 102 then .inl (cA (x.1 - 100), x.2.1, .inl f) else .inl (cA (x.1 - 100), x.2.1, .inr (.inr (.inr (.inr (fun j => (x.2.2.getD j none).map σ)))))
def wo (sh : Shp) (σ : Nat → Nat) (cA : Nat → ClassId) (μ : Mem) : va_W := sh.mapIdx (fun o x => (σ o, cel σ cA (μ o) x))
def tysA (cA : Nat → ClassId) : List (ClassId × FieldType) := [(cA 0, .int), (cA 1, .char), (cA 2, .object "HeardSlots$Station"), (cA 3, .object "HeardSlots$Net")]
def Rp (sh : Shp) (σ : Nat → Nat) (cA : Nat → ClassId) (D : va_G) (A : Nat → Prop) (μ : Mem) (H : Heap) : Prop := va_P D vwCl (wo sh σ cA μ) H ∧ va_D A (wo sh σ cA μ)
theorem wo_at {sh : Shp} {σ : Nat → Nat} {cA : Nat → ClassId} {μ : Mem} {o : Nat} {x : Nat × Nat × List (Option Nat)} (h : sh[o]? = some x) : (wo sh σ cA μ)[o]? = some (σ o, cel σ cA (μ o) x) := by
  unfold wo; rw [List.getElem?_mapIdx, h]; rfl
theorem wo_set {sh : Shp} {σ : Nat → Nat} {cA : Nat → ClassId} {μ : Mem} {o : Nat} {x : Nat × Nat × List (Option Nat)} {f : Nat → Int32} (h : sh[o]? = some x) : (wo sh σ cA μ).set o (σ o, cel σ cA f x) = wo sh σ cA (upA μ o f) := by
  apply List.ext_getElem?
  intro i
  rw [List.getElem?_set]
  unfold wo
  rw [List.length_mapIdx, List.getElem?_mapIdx, List.getElem?_mapIdx]
  by_cases hi : o = i
  · subst hi
    have hl : o < sh.length := (List.getElem?_eq_some_iff.mp h).1
    rw [if_pos rfl, if_pos hl, h]
    simp [upA]
  · rw [if_neg hi]
    have : ¬ i = o := fun e => hi e.symm
    simp [upA, this]
theorem cel_obj {σ : Nat → Nat} {cA : Nat → ClassId} {f : Nat → Int32} {ci n : Nat} {fs : List (Option Nat)} (h : ci < 100) : cel σ cA f (ci, n, fs) = .inr (ci, fs.mapIdx (sfv σ f)) := by
  unfold cel; rw [if_pos h]
theorem cel_int {σ : Nat → Nat} {cA : Nat → ClassId} {f : Nat → Int32} {n : Nat} {fs : List (Option Nat)} : cel σ cA f (100, n, fs) = .inl (cA 0, n, .inl f) := rfl
theorem cel_chr {σ : Nat → Nat} {cA : Nat → ClassId} {f : Nat → Int32} {n : Nat} {fs : List (Option Nat)} : cel σ cA f (101, n, fs) = .inl (cA 1, n, .inl f) := rfl
theorem cel_ref {σ : Nat → Nat} {cA : Nat → ClassId} {f : Nat → Int32} {t n : Nat} {fs : List (Option Nat)} (h : 102 ≤ t) : cel σ cA f (t, n, fs) = .inl (cA (t - 100), n, .inr (.inr (.inr (.inr (fun j => (fs.getD j none).map σ))))) := by
  unfold cel; rw [if_neg (by show ¬ t < 100; omega), if_neg (by show ¬ t < 102; omega)]
def toL (σ : Nat → Nat) (al : List (Option Value)) : List (Nat × Value) := al.zipIdx.filterMap (fun q => q.1.map (fun v => (q.2, cvl σ v)))
theorem mem_toL {σ : Nat → Nat} {al : List (Option Value)} {q : Nat × Value} : q ∈ toL σ al ↔ ∃ v, al[q.1]? = some (some v) ∧ q.2 = cvl σ v := by
  unfold toL
  rw [List.mem_filterMap]
  constructor
  · rintro ⟨⟨o, i⟩, h1, h2⟩
    cases o with
    | none => cases h2
    | some v =>
      cases h2
      exact ⟨v, by simpa [List.mem_zipIdx_iff_getElem?] using h1, rfl⟩
  · rintro ⟨v, h1, h2⟩
    refine ⟨(some v, q.1), by simpa [List.mem_zipIdx_iff_getElem?] using h1, ?_⟩
    obtain ⟨a, b⟩ := q
    cases h2
    rfl
def LV (σ : Nat → Nat) (ls : Array Slot) (nL : Nat) (al : List (Option Value)) : Prop := lv_has ls nL (toL σ al)
theorem LV.get {σ : Nat → Nat} {ls : Array Slot} {nL : Nat} {al : List (Option Value)} (h : LV σ ls nL al) {i : Nat} {v : Value} (hi : al[i]? = some (some v)) : ls[i]? = some (.val (cvl σ v)) := h.2.2 (i, cvl σ v) (mem_toL.mpr ⟨v, hi, rfl⟩)
def nolong (al : List (Option Value)) (i : Nat) : Bool := match i with
  | 0 => true
  | j + 1 => match al[j]? with
    | some (some v) => v.category == 1
    | _ => true
theorem nolong_spec {al : List (Option Value)} {i j : Nat} {v : Value} (h : nolong al i = true) (hj : j + 1 = i) (hv : al[j]? = some (some v)) : v.category = 1 := by
  subst hj
  unfold nolong at h
  simp only [hv] at h
  simpa using h
theorem LV.set1 {σ : Nat → Nat} {ls : Array Slot} {nL : Nat} {al : List (Option Value)} {i : Nat} {v : Value} (hn : nolong al i = true) (h : lv_has ls nL ((i, cvl σ v) :: (toL σ al).filter (fun q => !(q.1 == i) && !(q.1 + 1 == i && q.2.category == 2)))) : LV σ ls nL (al.set i (some v)) := by
  refine ⟨h.1, h.2.1, fun q hq => ?_⟩
  obtain ⟨w, h1, h2⟩ := mem_toL.mp hq
  by_cases hi : q.1 = i
  · apply h.2.2 q
    rw [hi, List.getElem?_set] at h1
    rw [if_pos rfl] at h1
    split at h1
    · cases h1
      rw [List.mem_cons]; left; rw [← hi, ← h2]
    · cases h1
  · apply h.2.2 q
    rw [List.getElem?_set_ne (fun e => hi e.symm)] at h1
    refine List.mem_cons_of_mem _ (List.mem_filter.mpr ⟨mem_toL.mpr ⟨w, h1, h2⟩, ?_⟩)
    by_cases hj : q.1 + 1 = i
    · have h3 : q.2.category = 1 := by rw [h2, cvl_cat]; exact nolong_spec hn hj h1
      simp [hi, h3]
    · simp [hi, hj]
theorem LV.set2 {σ : Nat → Nat} {ls : Array Slot} {nL : Nat} {al : List (Option Value)} {i : Nat} {v : Value} (hn : nolong al i = true) (h : lv_has ls nL ((i, cvl σ v) :: (toL σ al).filter (fun q => !(q.1 == i) && (!(q.1 == i + 1) && !(q.1 + 1 == i && q.2.category == 2))))) : LV σ ls nL ((al.set i (some v)).set (i + 1) none) := by
  refine ⟨h.1, h.2.1, fun q hq => ?_⟩
  obtain ⟨w, h1, h2⟩ := mem_toL.mp hq
  by_cases hi2 : q.1 = i + 1
  · rw [hi2, List.getElem?_set] at h1
    rw [if_pos rfl] at h1
    split at h1 <;> cases h1
  · rw [List.getElem?_set_ne (fun e => hi2 e.symm)] at h1
    by_cases hi : q.1 = i
    · apply h.2.2 q
      rw [hi, List.getElem?_set] at h1
      rw [if_pos rfl] at h1
      split at h1
      · cases h1
        rw [List.mem_cons]; left; rw [← hi, ← h2]
      · cases h1
    · apply h.2.2 q
      rw [List.getElem?_set_ne (fun e => hi e.symm)] at h1
      refine List.mem_cons_of_mem _ (List.mem_filter.mpr ⟨mem_toL.mpr ⟨w, h1, h2⟩, ?_⟩)
      by_cases hj : q.1 + 1 = i
      · have h3 : q.2.category = 1 := by rw [h2, cvl_cat]; exact nolong_spec hn hj h1
        simp [hi, hi2, h3]
      · simp [hi, hi2, hj]
abbrev rmOf (mt : Mt) : Room := { frames := mt.2.2.2.2.1, cells := 0, slots := 0, locals := mt.2.2.2.2.2 }
def Ax (mt : Mt) (cA : Nat → ClassId) (D : va_G) (p : Program) (s : State) (m : MethodId) (meth : Method) (c : Code) : Prop :=
  p.tables.exec = Jvm.exec ∧ c.code = mt.2.1 ∧ c.maxLocals = mt.2.2.1 ∧ meth.sig.returnType = mt.2.2.2.1 ∧ meth.locks = false ∧ s.vm.findClass mt.1.cls = some m.cls ∧ va_K D vwCl (tysA cA) s ∧ Fx s
def Qc (sh : Shp) (ret : Option FieldType) (σ : Nat → Nat) (cA : Nat → ClassId) (D : va_G) (A : Nat → Prop) (Q : Int32 → Mem → Prop) : Array Value → State → Outcome → State → Prop := match ret with
  | none => va_Qv (fun u : Mem => Q 0 u) (fun u t => Rp sh σ cA D A u t.heap) A
  | some _ => va_Qi (fun (r : Int32) (u : Mem) => Q r u) (fun u t => Rp sh σ cA D A u t.heap) A
def AW (sh : Shp) (mt : Mt) (pc : Nat) (al : List (Option Value)) (st : List Value) (μ : Mem) (Q : Int32 → Mem → Prop) : Prop :=
  ∀ (l : Launch) (σ : Nat → Nat) (cA : Nat → ClassId) (D : va_G) (A : Nat → Prop) (p : Program) (e : Env) (s : State) (m : MethodId) (args : Array Value) (below : List Frame) (meth : Method) (c : Code) (H : Heap) (locs : List Loc) (ls : Array Slot),
    Ax mt cA D p s m meth c → Rp sh σ cA D A μ H → va_S A s.heap H locs → LV σ ls mt.2.2.1 al →
    W p l e (rmOf mt) s m args below meth c H locs 0 0 (MQ below (Qc sh mt.2.2.2.1 σ cA D A Q) args s 0 0 A) (F0 m pc ls (st.map (cvl σ)))
def Con (sh : Shp) (mt : Mt) (vs : List Value) (μ : Mem) (Q : Int32 → Mem → Prop) : Prop :=
  ∀ (l : Launch) (σ : Nat → Nat) (cA : Nat → ClassId) (D : va_G) (A : Nat → Prop), Met l mt.1 [.code mt.1 mt.2.1 mt.2.2.1 mt.2.2.2.1] (rmOf mt)
    (fun a U => a = (vs.map (cvl σ)).toArray ∧ va_K D vwCl (tysA cA) U ∧ Fx U ∧ Rp sh σ cA D A μ U.heap) (Qc sh mt.2.2.2.1 σ cA D A Q) 0 0 A
end
section
section ROWS
variable {sh : Shp} {mt : Mt} {pc : Nat} {al : List (Option Value)} {st : List Value} {μ : Mem} {Q : Int32 → Mem → Prop}
theorem a_iconst {n : Int} {v : Int32} (d : decode mt.2.1 pc = .ok (.iconst n, 1)) (hv : Int32.ofInt n = v) (k : AW sh mt (pc + 1) al (.int v :: st) μ Q) : AW sh mt pc al st μ Q :=
  fun l σ cA D A p e s m args below meth c H locs ls X R S V => lv_iconst X.1 X.2.1 d hv (k l σ cA D A p e s m args below meth c H locs ls X R S V)
theorem a_bipush {n : Int} {v : Int32} (d : decode mt.2.1 pc = .ok (.bipush n, 2)) (hv : (Int8.ofInt n).toInt32 = v) (k : AW sh mt (pc + 2) al (.int v :: st) μ Q) : AW sh mt pc al st μ Q :=
  fun l σ cA D A p e s m args below meth c H locs ls X R S V => lv_bipush X.1 X.2.1 d hv (k l σ cA D A p e s m args below meth c H locs ls X R S V)
theorem a_sipush {n : Int} {v : Int32} (d : decode mt.2.1 pc = .ok (.sipush n, 3)) (hv : (Int16.ofInt n).toInt32 = v) (k : AW sh mt (pc + 3) al (.int v :: st) μ Q) : AW sh mt pc al st μ Q :=
  fun l σ cA D A p e s m args below meth c H locs ls X R S V => lv_sipush X.1 X.2.1 d hv (k l σ cA D A p e s m args below meth c H locs ls X R S V)
theorem a_lconst {n : Fin 2} {v : Int64} (d : decode mt.2.1 pc = .ok (.lconst n, 1)) (hv : Int64.ofNat (n : Nat) = v) (k : AW sh mt (pc + 1) al (.long v :: st) μ Q) : AW sh mt pc al st μ Q :=
  fun l σ cA D A p e s m args below meth c H locs ls X R S V => lv_lconst X.1 X.2.1 d hv (k l σ cA D A p e s m args below meth c H locs ls X R S V)
theorem a_ldc2 {index : Nat} {v : Int64} (d : decode mt.2.1 pc = .ok (.ldc2_w index, 3)) (hw : Cond.constantLong mt.1.cls index v ∈ lw_tbl) (k : AW sh mt (pc + 3) al (.long v :: st) μ Q) : AW sh mt pc al st μ Q :=
  fun l σ cA D A p e s m args below meth c H locs ls X R S V => lv_ldc2 X.1 X.2.1 X.2.2.2.2.2.1 (X.2.2.2.2.2.2.2.use hw rfl args) d (k l σ cA D A p e s m args below meth c H locs ls X R S V)
theorem a_ldcw {index : Nat} {v : Int32} (d : decode mt.2.1 pc = .ok (.ldc_w index, 3)) (hw : Cond.constant mt.1.cls index v ∈ lw_tbl) (k : AW sh mt (pc + 3) al (.int v :: st) μ Q) : AW sh mt pc al st μ Q :=
  fun l σ cA D A p e s m args below meth c H locs ls X R S V => lv_ldcw X.1 X.2.1 X.2.2.2.2.2.1 (X.2.2.2.2.2.2.2.use hw rfl args) d (k l σ cA D A p e s m args below meth c H locs ls X R S V)
theorem a_iload_n {n : Fin 4} {i : Nat} {x : Int32} (d : decode mt.2.1 pc = .ok (.iload_n n, 1)) (hi : (n : Nat) = i) (h : al[i]? = some (some (.int x))) (k : AW sh mt (pc + 1) al (.int x :: st) μ Q) : AW sh mt pc al st μ Q :=
  fun l σ cA D A p e s m args below meth c H locs ls X R S V => lv_iload_n X.1 X.2.1 d hi (V.get h) (k l σ cA D A p e s m args below meth c H locs ls X R S V)
theorem a_iload {i : Nat} {x : Int32} (d : decode mt.2.1 pc = .ok (.iload i, 2)) (h : al[i]? = some (some (.int x))) (k : AW sh mt (pc + 2) al (.int x :: st) μ Q) : AW sh mt pc al st μ Q :=
  fun l σ cA D A p e s m args below meth c H locs ls X R S V => lv_iload X.1 X.2.1 d (V.get h) (k l σ cA D A p e s m args below meth c H locs ls X R S V)
theorem a_lload_n {n : Fin 4} {i : Nat} {x : Int64} (d : decode mt.2.1 pc = .ok (.lload_n n, 1)) (hi : (n : Nat) = i) (h : al[i]? = some (some (.long x))) (k : AW sh mt (pc + 1) al (.long x :: st) μ Q) : AW sh mt pc al st μ Q :=
  fun l σ cA D A p e s m args below meth c H locs ls X R S V => lv_lload_n X.1 X.2.1 d hi (V.get h) (k l σ cA D A p e s m args below meth c H locs ls X R S V)
theorem a_lload {i : Nat} {x : Int64} (d : decode mt.2.1 pc = .ok (.lload i, 2)) (h : al[i]? = some (some (.long x))) (k : AW sh mt (pc + 2) al (.long x :: st) μ Q) : AW sh mt pc al st μ Q :=
  fun l σ cA D A p e s m args below meth c H locs ls X R S V => lv_lload X.1 X.2.1 d (V.get h) (k l σ cA D A p e s m args below meth c H locs ls X R S V)
theorem a_aload_n {n : Fin 4} {i : Nat} {x : Nat} (d : decode mt.2.1 pc = .ok (.aload_n n, 1)) (hi : (n : Nat) = i) (h : al[i]? = some (some (.ref x))) (k : AW sh mt (pc + 1) al (.ref x :: st) μ Q) : AW sh mt pc al st μ Q :=
  fun l σ cA D A p e s m args below meth c H locs ls X R S V => lv_aload_n X.1 X.2.1 d hi (V.get h) (k l σ cA D A p e s m args below meth c H locs ls X R S V)
theorem a_aload {i : Nat} {x : Nat} (d : decode mt.2.1 pc = .ok (.aload i, 2)) (h : al[i]? = some (some (.ref x))) (k : AW sh mt (pc + 2) al (.ref x :: st) μ Q) : AW sh mt pc al st μ Q :=
  fun l σ cA D A p e s m args below meth c H locs ls X R S V => lv_aload X.1 X.2.1 d (V.get h) (k l σ cA D A p e s m args below meth c H locs ls X R S V)
theorem a_istore_n {n : Fin 4} {i : Nat} {x : Int32} {al' : List (Option Value)} (d : decode mt.2.1 pc = .ok (.istore_n n, 1)) (hi : (n : Nat) = i) (hn : i < mt.2.2.1) (hl : nolong al i = true) (he : al.set i (some (.int x)) = al') (k : AW sh mt (pc + 1) al' st μ Q) : AW sh mt pc al (.int x :: st) μ Q :=
  fun l σ cA D A p e s m args below meth c H locs ls X R S V => lv_istore_n X.1 X.2.1 d hi V hn rfl (fun ls' h' => k l σ cA D A p e s m args below meth c H locs ls' X R S (he ▸ LV.set1 (v := .int x) hl h'))
theorem a_istore {i : Nat} {x : Int32} {al' : List (Option Value)} (d : decode mt.2.1 pc = .ok (.istore i, 2)) (hn : i < mt.2.2.1) (hl : nolong al i = true) (he : al.set i (some (.int x)) = al') (k : AW sh mt (pc + 2) al' st μ Q) : AW sh mt pc al (.int x :: st) μ Q :=
  fun l σ cA D A p e s m args below meth c H locs ls X R S V => lv_istore X.1 X.2.1 d V hn rfl (fun ls' h' => k l σ cA D A p e s m args below meth c H locs ls' X R S (he ▸ LV.set1 (v := .int x) hl h'))
theorem a_astore_n {n : Fin 4} {i : Nat} {x : Nat} {al' : List (Option Value)} (d : decode mt.2.1 pc = .ok (.astore_n n, 1)) (hi : (n : Nat) = i) (hn : i < mt.2.2.1) (hl : nolong al i = true) (he : al.set i (some (.ref x)) = al') (k : AW sh mt (pc + 1) al' st μ Q) : AW sh mt pc al (.ref x :: st) μ Q :=
  fun l σ cA D A p e s m args below meth c H locs ls X R S V => lv_astore_n X.1 X.2.1 d hi V hn rfl (fun ls' h' => k l σ cA D A p e s m args below meth c H locs ls' X R S (he ▸ LV.set1 (v := .ref x) hl h'))
theorem a_astore {i : Nat} {x : Nat} {al' : List (Option Value)} (d : decode mt.2.1 pc = .ok (.astore i, 2)) (hn : i < mt.2.2.1) (hl : nolong al i = true) (he : al.set i (some (.ref x)) = al') (k : AW sh mt (pc + 2) al' st μ Q) : AW sh mt pc al (.ref x :: st) μ Q :=
  fun l σ cA D A p e s m args below meth c H locs ls X R S V => lv_astore X.1 X.2.1 d V hn rfl (fun ls' h' => k l σ cA D A p e s m args below meth c H locs ls' X R S (he ▸ LV.set1 (v := .ref x) hl h'))
theorem a_lstore_n {n : Fin 4} {i : Nat} {x : Int64} {al' : List (Option Value)} (d : decode mt.2.1 pc = .ok (.lstore_n n, 1)) (hi : (n : Nat) = i) (hn : i + 1 < mt.2.2.1) (hl : nolong al i = true) (he : (al.set i (some (.long x))).set (i + 1) none = al') (k : AW sh mt (pc + 1) al' st μ Q) : AW sh mt pc al (.long x :: st) μ Q :=
  fun l σ cA D A p e s m args below meth c H locs ls X R S V => lv_lstore_n X.1 X.2.1 d hi V hn rfl (fun ls' h' => k l σ cA D A p e s m args below meth c H locs ls' X R S (he ▸ LV.set2 (v := .long x) hl h'))
theorem a_lstore {i : Nat} {x : Int64} {al' : List (Option Value)} (d : decode mt.2.1 pc = .ok (.lstore i, 2)) (hn : i + 1 < mt.2.2.1) (hl : nolong al i = true) (he : (al.set i (some (.long x))).set (i + 1) none = al') (k : AW sh mt (pc + 2) al' st μ Q) : AW sh mt pc al (.long x :: st) μ Q :=
  fun l σ cA D A p e s m args below meth c H locs ls X R S V => lv_lstore X.1 X.2.1 d V hn rfl (fun ls' h' => k l σ cA D A p e s m args below meth c H locs ls' X R S (he ▸ LV.set2 (v := .long x) hl h'))
theorem a_iinc {i : Nat} {n : Int} {x v : Int32} {al' : List (Option Value)} (d : decode mt.2.1 pc = .ok (.iinc i n, 3)) (h : al[i]? = some (some (.int x))) (hv : x + Int32.ofInt n = v) (hn : i < mt.2.2.1) (hl : nolong al i = true) (he : al.set i (some (.int v)) = al') (k : AW sh mt (pc + 3) al' st μ Q) : AW sh mt pc al st μ Q := by
  intro l σ cA D A p e s m args below meth c H locs ls X R S V
  obtain ⟨j, hj⟩ := List.getElem?_of_mem ((mem_toL (σ := σ) (al := al) (q := (i, .int x))).mpr ⟨.int x, h, rfl⟩)
  exact lv_iinc X.1 X.2.1 d V hj hv hn rfl (fun ls' h' => k l σ cA D A p e s m args below meth c H locs ls' X R S (he ▸ LV.set1 (v := .int v) hl h'))
theorem a_iadd {x y : Int32} (d : decode mt.2.1 pc = .ok (.iadd, 1)) (k : AW sh mt (pc + 1) al (.int (x + y) :: st) μ Q) : AW sh mt pc al (.int y :: .int x :: st) μ Q :=
  fun l σ cA D A p e s m args below meth c H locs ls X R S V => lv_iadd X.1 X.2.1 d (k l σ cA D A p e s m args below meth c H locs ls X R S V)
theorem a_isub {x y : Int32} (d : decode mt.2.1 pc = .ok (.isub, 1)) (k : AW sh mt (pc + 1) al (.int (x - y) :: st) μ Q) : AW sh mt pc al (.int y :: .int x :: st) μ Q :=
  fun l σ cA D A p e s m args below meth c H locs ls X R S V => lv_isub X.1 X.2.1 d (k l σ cA D A p e s m args below meth c H locs ls X R S V)
theorem a_imul {x y : Int32} (d : decode mt.2.1 pc = .ok (.imul, 1)) (k : AW sh mt (pc + 1) al (.int (x * y) :: st) μ Q) : AW sh mt pc al (.int y :: .int x :: st) μ Q :=
  fun l σ cA D A p e s m args below meth c H locs ls X R S V => lv_imul X.1 X.2.1 d (k l σ cA D A p e s m args below meth c H locs ls X R S V)
theorem a_iand {x y : Int32} (d : decode mt.2.1 pc = .ok (.iand, 1)) (k : AW sh mt (pc + 1) al (.int (x &&& y) :: st) μ Q) : AW sh mt pc al (.int y :: .int x :: st) μ Q :=
  fun l σ cA D A p e s m args below meth c H locs ls X R S V => lv_iand X.1 X.2.1 d (k l σ cA D A p e s m args below meth c H locs ls X R S V)
theorem a_ior {x y : Int32} (d : decode mt.2.1 pc = .ok (.ior, 1)) (k : AW sh mt (pc + 1) al (.int (x ||| y) :: st) μ Q) : AW sh mt pc al (.int y :: .int x :: st) μ Q :=
  fun l σ cA D A p e s m args below meth c H locs ls X R S V => lv_ior X.1 X.2.1 d (k l σ cA D A p e s m args below meth c H locs ls X R S V)
theorem a_ixor {x y : Int32} (d : decode mt.2.1 pc = .ok (.ixor, 1)) (k : AW sh mt (pc + 1) al (.int (x ^^^ y) :: st) μ Q) : AW sh mt pc al (.int y :: .int x :: st) μ Q :=
  fun l σ cA D A p e s m args below meth c H locs ls X R S V => lv_ixor X.1 X.2.1 d (k l σ cA D A p e s m args below meth c H locs ls X R S V)
theorem a_irem {x y : Int32} (d : decode mt.2.1 pc = .ok (.irem, 1)) (hne : ¬ y = 0) (k : AW sh mt (pc + 1) al (.int (x - x / y * y) :: st) μ Q) : AW sh mt pc al (.int y :: .int x :: st) μ Q :=
  fun l σ cA D A p e s m args below meth c H locs ls X R S V => lv_irem X.1 X.2.1 d hne (k l σ cA D A p e s m args below meth c H locs ls X R S V)
theorem a_ladd {x y : Int64} (d : decode mt.2.1 pc = .ok (.ladd, 1)) (k : AW sh mt (pc + 1) al (.long (x + y) :: st) μ Q) : AW sh mt pc al (.long y :: .long x :: st) μ Q :=
  fun l σ cA D A p e s m args below meth c H locs ls X R S V => lv_ladd X.1 X.2.1 d (k l σ cA D A p e s m args below meth c H locs ls X R S V)
theorem a_lmul {x y : Int64} (d : decode mt.2.1 pc = .ok (.lmul, 1)) (k : AW sh mt (pc + 1) al (.long (x * y) :: st) μ Q) : AW sh mt pc al (.long y :: .long x :: st) μ Q :=
  fun l σ cA D A p e s m args below meth c H locs ls X R S V => lv_lmul X.1 X.2.1 d (k l σ cA D A p e s m args below meth c H locs ls X R S V)
theorem a_lrem {x y : Int64} (d : decode mt.2.1 pc = .ok (.lrem, 1)) (hne : ¬ y = 0) (k : AW sh mt (pc + 1) al (.long (x - x / y * y) :: st) μ Q) : AW sh mt pc al (.long y :: .long x :: st) μ Q :=
  fun l σ cA D A p e s m args below meth c H locs ls X R S V => lv_lrem X.1 X.2.1 d hne (k l σ cA D A p e s m args below meth c H locs ls X R S V)
theorem a_ishl {x y : Int32} (d : decode mt.2.1 pc = .ok (.ishl, 1)) (k : AW sh mt (pc + 1) al (.int (x <<< (y &&& 31)) :: st) μ Q) : AW sh mt pc al (.int y :: .int x :: st) μ Q :=
  fun l σ cA D A p e s m args below meth c H locs ls X R S V => lv_ishl X.1 X.2.1 d (k l σ cA D A p e s m args below meth c H locs ls X R S V)
theorem a_ishr {x y : Int32} (d : decode mt.2.1 pc = .ok (.ishr, 1)) (k : AW sh mt (pc + 1) al (.int (x >>> (y &&& 31)) :: st) μ Q) : AW sh mt pc al (.int y :: .int x :: st) μ Q :=
  fun l σ cA D A p e s m args below meth c H locs ls X R S V => lv_ishr X.1 X.2.1 d (k l σ cA D A p e s m args below meth c H locs ls X R S V)
theorem a_iushr {x y v : Int32} (d : decode mt.2.1 pc = .ok (.iushr, 1)) (hv : (x.toUInt32 >>> (y.toUInt32 &&& Int32.toUInt32 31)).toInt32 = v) (k : AW sh mt (pc + 1) al (.int v :: st) μ Q) : AW sh mt pc al (.int y :: .int x :: st) μ Q :=
  fun l σ cA D A p e s m args below meth c H locs ls X R S V => lv_iushr X.1 X.2.1 d hv (k l σ cA D A p e s m args below meth c H locs ls X R S V)
theorem a_i2l {x : Int32} (d : decode mt.2.1 pc = .ok (.i2l, 1)) (k : AW sh mt (pc + 1) al (.long x.toInt64 :: st) μ Q) : AW sh mt pc al (.int x :: st) μ Q :=
  fun l σ cA D A p e s m args below meth c H locs ls X R S V => lv_i2l X.1 X.2.1 d rfl (k l σ cA D A p e s m args below meth c H locs ls X R S V)
theorem a_l2i {x : Int64} (d : decode mt.2.1 pc = .ok (.l2i, 1)) (k : AW sh mt (pc + 1) al (.int x.toInt32 :: st) μ Q) : AW sh mt pc al (.long x :: st) μ Q :=
  fun l σ cA D A p e s m args below meth c H locs ls X R S V => lv_l2i X.1 X.2.1 d rfl (k l σ cA D A p e s m args below meth c H locs ls X R S V)
theorem a_i2c {x : Int32} (d : decode mt.2.1 pc = .ok (.i2c, 1)) (k : AW sh mt (pc + 1) al (.int (x.toUInt32 % 65536).toInt32 :: st) μ Q) : AW sh mt pc al (.int x :: st) μ Q :=
  fun l σ cA D A p e s m args below meth c H locs ls X R S V => lv_i2c X.1 X.2.1 d rfl (k l σ cA D A p e s m args below meth c H locs ls X R S V)
theorem a_dup {v : Value} (d : decode mt.2.1 pc = .ok (.dup, 1)) (hv : v.category = 1) (k : AW sh mt (pc + 1) al (v :: v :: st) μ Q) : AW sh mt pc al (v :: st) μ Q :=
  fun l σ cA D A p e s m args below meth c H locs ls X R S V => lv_dup X.1 X.2.1 d (by rw [cvl_cat]; exact hv) (k l σ cA D A p e s m args below meth c H locs ls X R S V)
theorem a_dup2 {v w : Value} (d : decode mt.2.1 pc = .ok (.dup2, 1)) (hv : v.category = 1) (hw : w.category = 1) (k : AW sh mt (pc + 1) al (v :: w :: v :: w :: st) μ Q) : AW sh mt pc al (v :: w :: st) μ Q :=
  fun l σ cA D A p e s m args below meth c H locs ls X R S V => lv_dup2_11 X.1 X.2.1 d (by rw [cvl_cat]; exact hv) (by rw [cvl_cat]; exact hw) (k l σ cA D A p e s m args below meth c H locs ls X R S V)
theorem a_pop {v : Value} (d : decode mt.2.1 pc = .ok (.pop, 1)) (hv : v.category = 1) (k : AW sh mt (pc + 1) al st μ Q) : AW sh mt pc al (v :: st) μ Q :=
  fun l σ cA D A p e s m args below meth c H locs ls X R S V => lv_pop X.1 X.2.1 d (by rw [cvl_cat]; exact hv) (k l σ cA D A p e s m args below meth c H locs ls X R S V)
theorem a_goto {off : Int} {tgt : Nat} (d : decode mt.2.1 pc = .ok (.goto off, 3)) (ht : (pc : Int) + off = (tgt : Int)) (k : AW sh mt tgt al st μ Q) : AW sh mt pc al st μ Q :=
  fun l σ cA D A p e s m args below meth c H locs ls X R S V => lv_goto X.1 X.2.1 d ht (k l σ cA D A p e s m args below meth c H locs ls X R S V)
theorem a_if_eq {x : Int32} {off : Int} {tgt : Nat} (d : decode mt.2.1 pc = .ok (.ifCond .eq off, 3)) (ht : (pc : Int) + off = (tgt : Int)) (kt : x = 0 → AW sh mt tgt al st μ Q) (kf : ¬ x = 0 → AW sh mt (pc + 3) al st μ Q) : AW sh mt pc al (.int x :: st) μ Q :=
  fun l σ cA D A p e s m args below meth c H locs ls X R S V => lv_if_eq X.1 X.2.1 d ht (fun h => kt h l σ cA D A p e s m args below meth c H locs ls X R S V) (fun h => kf h l σ cA D A p e s m args below meth c H locs ls X R S V)
theorem a_if_ne {x : Int32} {off : Int} {tgt : Nat} (d : decode mt.2.1 pc = .ok (.ifCond .ne off, 3)) (ht : (pc : Int) + off = (tgt : Int)) (kt : ¬ x = 0 → AW sh mt tgt al st μ Q) (kf : x = 0 → AW sh mt (pc + 3) al st μ Q) : AW sh mt pc al (.int x :: st) μ Q :=
  fun l σ cA D A p e s m args below meth c H locs ls X R S V => lv_if_ne X.1 X.2.1 d ht (fun h => kt h l σ cA D A p e s m args below meth c H locs ls X R S V) (fun h => kf h l σ cA D A p e s m args below meth c H locs ls X R S V)
theorem a_if_lt {x : Int32} {off : Int} {tgt : Nat} (d : decode mt.2.1 pc = .ok (.ifCond .lt off, 3)) (ht : (pc : Int) + off = (tgt : Int)) (kt : x < 0 → AW sh mt tgt al st μ Q) (kf : ¬ x < 0 → AW sh mt (pc + 3) al st μ Q) : AW sh mt pc al (.int x :: st) μ Q :=
  fun l σ cA D A p e s m args below meth c H locs ls X R S V => lv_if_lt X.1 X.2.1 d ht (fun h => kt h l σ cA D A p e s m args below meth c H locs ls X R S V) (fun h => kf h l σ cA D A p e s m args below meth c H locs ls X R S V)
theorem a_if_ge {x : Int32} {off : Int} {tgt : Nat} (d : decode mt.2.1 pc = .ok (.ifCond .ge off, 3)) (ht : (pc : Int) + off = (tgt : Int)) (kt : 0 ≤ x → AW sh mt tgt al st μ Q) (kf : ¬ 0 ≤ x → AW sh mt (pc + 3) al st μ Q) : AW sh mt pc al (.int x :: st) μ Q :=
  fun l σ cA D A p e s m args below meth c H locs ls X R S V => lv_if_ge X.1 X.2.1 d ht (fun h => kt h l σ cA D A p e s m args below meth c H locs ls X R S V) (fun h => kf h l σ cA D A p e s m args below meth c H locs ls X R S V)
theorem a_if_gt {x : Int32} {off : Int} {tgt : Nat} (d : decode mt.2.1 pc = .ok (.ifCond .gt off, 3)) (ht : (pc : Int) + off = (tgt : Int)) (kt : 0 < x → AW sh mt tgt al st μ Q) (kf : ¬ 0 < x → AW sh mt (pc + 3) al st μ Q) : AW sh mt pc al (.int x :: st) μ Q :=
  fun l σ cA D A p e s m args below meth c H locs ls X R S V => lv_if_gt X.1 X.2.1 d ht (fun h => kt h l σ cA D A p e s m args below meth c H locs ls X R S V) (fun h => kf h l σ cA D A p e s m args below meth c H locs ls X R S V)
theorem a_if_le {x : Int32} {off : Int} {tgt : Nat} (d : decode mt.2.1 pc = .ok (.ifCond .le off, 3)) (ht : (pc : Int) + off = (tgt : Int)) (kt : x ≤ 0 → AW sh mt tgt al st μ Q) (kf : ¬ x ≤ 0 → AW sh mt (pc + 3) al st μ Q) : AW sh mt pc al (.int x :: st) μ Q :=
  fun l σ cA D A p e s m args below meth c H locs ls X R S V => lv_if_le X.1 X.2.1 d ht (fun h => kt h l σ cA D A p e s m args below meth c H locs ls X R S V) (fun h => kf h l σ cA D A p e s m args below meth c H locs ls X R S V)
theorem a_icmp_eq {x y : Int32} {off : Int} {tgt : Nat} (d : decode mt.2.1 pc = .ok (.if_icmp .eq off, 3)) (ht : (pc : Int) + off = (tgt : Int)) (kt : x = y → AW sh mt tgt al st μ Q) (kf : ¬ x = y → AW sh mt (pc + 3) al st μ Q) : AW sh mt pc al (.int y :: .int x :: st) μ Q :=
  fun l σ cA D A p e s m args below meth c H locs ls X R S V => lv_icmp_eq X.1 X.2.1 d ht (fun h => kt h l σ cA D A p e s m args below meth c H locs ls X R S V) (fun h => kf h l σ cA D A p e s m args below meth c H locs ls X R S V)
theorem a_icmp_ne {x y : Int32} {off : Int} {tgt : Nat} (d : decode mt.2.1 pc = .ok (.if_icmp .ne off, 3)) (ht : (pc : Int) + off = (tgt : Int)) (kt : ¬ x = y → AW sh mt tgt al st μ Q) (kf : x = y → AW sh mt (pc + 3) al st μ Q) : AW sh mt pc al (.int y :: .int x :: st) μ Q :=
  fun l σ cA D A p e s m args below meth c H locs ls X R S V => lv_icmp_ne X.1 X.2.1 d ht (fun h => kt h l σ cA D A p e s m args below meth c H locs ls X R S V) (fun h => kf h l σ cA D A p e s m args below meth c H locs ls X R S V)
theorem a_icmp_lt {x y : Int32} {off : Int} {tgt : Nat} (d : decode mt.2.1 pc = .ok (.if_icmp .lt off, 3)) (ht : (pc : Int) + off = (tgt : Int)) (kt : x < y → AW sh mt tgt al st μ Q) (kf : ¬ x < y → AW sh mt (pc + 3) al st μ Q) : AW sh mt pc al (.int y :: .int x :: st) μ Q :=
  fun l σ cA D A p e s m args below meth c H locs ls X R S V => lv_icmp_lt X.1 X.2.1 d ht (fun h => kt h l σ cA D A p e s m args below meth c H locs ls X R S V) (fun h => kf h l σ cA D A p e s m args below meth c H locs ls X R S V)
theorem a_icmp_ge {x y : Int32} {off : Int} {tgt : Nat} (d : decode mt.2.1 pc = .ok (.if_icmp .ge off, 3)) (ht : (pc : Int) + off = (tgt : Int)) (kt : y ≤ x → AW sh mt tgt al st μ Q) (kf : ¬ y ≤ x → AW sh mt (pc + 3) al st μ Q) : AW sh mt pc al (.int y :: .int x :: st) μ Q :=
  fun l σ cA D A p e s m args below meth c H locs ls X R S V => lv_icmp_ge X.1 X.2.1 d ht (fun h => kt h l σ cA D A p e s m args below meth c H locs ls X R S V) (fun h => kf h l σ cA D A p e s m args below meth c H locs ls X R S V)
theorem a_icmp_gt {x y : Int32} {off : Int} {tgt : Nat} (d : decode mt.2.1 pc = .ok (.if_icmp .gt off, 3)) (ht : (pc : Int) + off = (tgt : Int)) (kt : y < x → AW sh mt tgt al st μ Q) (kf : ¬ y < x → AW sh mt (pc + 3) al st μ Q) : AW sh mt pc al (.int y :: .int x :: st) μ Q :=
  fun l σ cA D A p e s m args below meth c H locs ls X R S V => lv_icmp_gt X.1 X.2.1 d ht (fun h => kt h l σ cA D A p e s m args below meth c H locs ls X R S V) (fun h => kf h l σ cA D A p e s m args below meth c H locs ls X R S V)
theorem a_icmp_le {x y : Int32} {off : Int} {tgt : Nat} (d : decode mt.2.1 pc = .ok (.if_icmp .le off, 3)) (ht : (pc : Int) + off = (tgt : Int)) (kt : x ≤ y → AW sh mt tgt al st μ Q) (kf : ¬ x ≤ y → AW sh mt (pc + 3) al st μ Q) : AW sh mt pc al (.int y :: .int x :: st) μ Q :=
  fun l σ cA D A p e s m args below meth c H locs ls X R S V => lv_icmp_le X.1 X.2.1 d ht (fun h => kt h l σ cA D A p e s m args below meth c H locs ls X R S V) (fun h => kf h l σ cA D A p e s m args below meth c H locs ls X R S V)
theorem a_tableIn {dflt lo hi : Int} {offs : Array Int} {len : Nat} {x : Int32} {off : Int} {tgt : Nat} (d : decode mt.2.1 pc = .ok (.tableswitch dflt lo hi offs, len)) (h1 : ¬ x.toInt < lo) (h2 : ¬ hi < x.toInt) (ho : offs[(x.toInt - lo).toNat]? = some off) (ht : (pc : Int) + off = (tgt : Int)) (k : AW sh mt tgt al st μ Q) : AW sh mt pc al (.int x :: st) μ Q :=
  fun l σ cA D A p e s m args below meth c H locs ls X R S V => lv_tableIn X.1 X.2.1 d h1 h2 ho ht (k l σ cA D A p e s m args below meth c H locs ls X R S V)
theorem a_tableOut {dflt lo hi : Int} {offs : Array Int} {len : Nat} {x : Int32} {tgt : Nat} (d : decode mt.2.1 pc = .ok (.tableswitch dflt lo hi offs, len)) (h : x.toInt < lo ∨ hi < x.toInt) (ht : (pc : Int) + dflt = (tgt : Int)) (k : AW sh mt tgt al st μ Q) : AW sh mt pc al (.int x :: st) μ Q :=
  fun l σ cA D A p e s m args below meth c H locs ls X R S V => lv_tableOut X.1 X.2.1 d h ht (k l σ cA D A p e s m args below meth c H locs ls X R S V)
theorem a_lookup {dflt : Int} {ps : Array (Int × Int)} {len : Nat} {x : Int32} {off : Int} {tgt : Nat} (d : decode mt.2.1 pc = .ok (.lookupswitch dflt ps, len)) (hp : (ps.toList.zip (ps.toList.drop 1)).all (fun (a, next) => a.1 < next.1) = true) (ho : Op.lookupswitch.offset ps.toList dflt x.toInt = off) (ht : (pc : Int) + off = (tgt : Int)) (k : AW sh mt tgt al st μ Q) : AW sh mt pc al (.int x :: st) μ Q :=
  fun l σ cA D A p e s m args below meth c H locs ls X R S V => lv_lookup X.1 X.2.1 d hp ho ht (k l σ cA D A p e s m args below meth c H locs ls X R S V)
theorem a_iret {v : Int32} (hr : mt.2.2.2.1 = some .int) (d : decode mt.2.1 pc = .ok (.ireturn, 1)) (k : Q v μ) : AW sh mt pc al [.int v] μ Q := by
  intro l σ cA D A p e s m args below meth c H locs ls X R S V
  have hret : meth.sig.returnType = some .int := X.2.2.2.1.trans hr
  have hlocks : meth.locks = false := X.2.2.2.2.1
  refine W.iret X.1 X.2.1 hret (fun t ht hW => ?_) S.2.2 d
  rw [hr]
  exact ⟨⟨v, μ, rfl, k, by show Rp sh σ cA D A μ t.heap; rw [ht]; exact R⟩, S.F ht⟩
theorem a_zret {v : Int32} (hr : mt.2.2.2.1 = some .boolean) (hv : narrow .boolean (.int v) = .int v) (d : decode mt.2.1 pc = .ok (.ireturn, 1)) (k : Q v μ) : AW sh mt pc al [.int v] μ Q := by
  intro l σ cA D A p e s m args below meth c H locs ls X R S V
  have hret : meth.sig.returnType = some .boolean := X.2.2.2.1.trans hr
  have hlocks : meth.locks = false := X.2.2.2.2.1
  refine W.zret X.1 X.2.1 hret hv (fun t ht hW => ?_) S.2.2 d
  rw [hr]
  exact ⟨⟨v, μ, rfl, k, by show Rp sh σ cA D A μ t.heap; rw [ht]; exact R⟩, S.F ht⟩
theorem a_vret (hr : mt.2.2.2.1 = none) (d : decode mt.2.1 pc = .ok (.return_, 1)) (k : Q 0 μ) : AW sh mt pc al [] μ Q := by
  intro l σ cA D A p e s m args below meth c H locs ls X R S V
  have hret : meth.sig.returnType = none := X.2.2.2.1.trans hr
  have hlocks : meth.locks = false := X.2.2.2.2.1
  refine W.vret X.1 X.2.1 hret (fun t ht hW => ?_) S.2.2 d
  rw [hr]
  exact ⟨⟨μ, rfl, k, by show Rp sh σ cA D A μ t.heap; rw [ht]; exact R⟩, S.F ht⟩
end ROWS
end
section
/-! fields, arrays, calls -/
def FL (own : String) (idx ci k : Nat) : Prop := ∃ (C : String) (T : u_T) (N : Nat), vwCl[ci]? = some (C, T, N) ∧ k < N ∧ Cond.fieldLink own idx (T k).1 (T k).2.1 (T k).2.2.1 ∈ lw_tbl ∧ (∀ w ∈ u_ws C T N, w ∈ lw_tbl ∧ hs_word w = true)
def FP (own : String) (idx ci k : Nat) (ty : FieldType) : Prop := ∃ (C : String) (T : u_T) (N : Nat) (ty0 : Nat → FieldType), vwCl[ci]? = some (C, T, N) ∧ k < N ∧ Cond.fieldLink own idx (T k).1 (T k).2.1 (T k).2.2.1 ∈ lw_tbl ∧ (∀ w ∈ u_ws C T N, w ∈ lw_tbl ∧ hs_word w = true) ∧
  (∀ k, k < N → parseFieldDescriptor (T k).2.2.1 = some (ty0 k)) ∧ (∀ a, a < N → ∀ b, b < N → a ≠ b → (T a).2.1 ≠ (T b).2.1) ∧ (T k).2.2.2 = false ∧ parseFieldDescriptor (T k).2.2.1 = some ty
section CELLS
variable {sh : Shp} {mt : Mt} {pc : Nat} {al : List (Option Value)} {st : List Value} {μ : Mem} {Q : Int32 → Mem → Prop}
theorem a_geti {o ci n k index : Nat} {fs : List (Option Nat)} (hfl : FL mt.1.cls index ci k) (hs : sh[o]? = some (ci, n, fs)) (hc : ci < 100) (hk : fs[k]? = some none) (d : decode mt.2.1 pc = .ok (.getfield index, 3)) (kk : AW sh mt (pc + 3) al (.int (μ o k) :: st) μ Q) : AW sh mt pc al (.ref o :: st) μ Q := by
  intro l σ cA D A p e s m args below meth c H locs ls X R S V
  obtain ⟨C, T, N, h1, h2, h3, h4⟩ := hfl
  have he := wo_at (σ := σ) (cA := cA) (μ := μ) hs
  rw [cel_obj hc] at he
  refine va_get X.1 X.2.1 (Ts := u_ws C T N) (fun w hw => X.2.2.2.2.2.2.2.use (h4 w hw).1 (h4 w hw).2 args) (fun w hw => hw) X.2.2.2.2.2.1 X.2.2.2.2.2.2.1 R.1 o he h1 k h2 (X.2.2.2.2.2.2.2.use h3 rfl args) (fun _ h => h) (v := .int (μ o k)) ?_ d (kk l σ cA D A p e s m args below meth c H locs ls X R S V)
  rw [List.getElem?_mapIdx, hk]; rfl
theorem a_getr {o ci n k index r : Nat} {fs : List (Option Nat)} (hfl : FL mt.1.cls index ci k) (hs : sh[o]? = some (ci, n, fs)) (hc : ci < 100) (hk : fs[k]? = some (some r)) (d : decode mt.2.1 pc = .ok (.getfield index, 3)) (kk : AW sh mt (pc + 3) al (.ref r :: st) μ Q) : AW sh mt pc al (.ref o :: st) μ Q := by
  intro l σ cA D A p e s m args below meth c H locs ls X R S V
  obtain ⟨C, T, N, h1, h2, h3, h4⟩ := hfl
  have he := wo_at (σ := σ) (cA := cA) (μ := μ) hs
  rw [cel_obj hc] at he
  refine va_get X.1 X.2.1 (Ts := u_ws C T N) (fun w hw => X.2.2.2.2.2.2.2.use (h4 w hw).1 (h4 w hw).2 args) (fun w hw => hw) X.2.2.2.2.2.1 X.2.2.2.2.2.2.1 R.1 o he h1 k h2 (X.2.2.2.2.2.2.2.use h3 rfl args) (fun _ h => h) (v := .ref (σ r)) ?_ d (kk l σ cA D A p e s m args below meth c H locs ls X R S V)
  rw [List.getElem?_mapIdx, hk]; rfl
theorem sfv_set {σ : Nat → Nat} {f : Nat → Int32} {fs : List (Option Nat)} {k : Nat} {v : Int32} (hk : fs[k]? = some none) : (fs.mapIdx (sfv σ f)).set k (.int v) = fs.mapIdx (sfv σ (upd f k v)) := by
  apply List.ext_getElem?
  intro i
  rw [List.getElem?_set, List.length_mapIdx, List.getElem?_mapIdx, List.getElem?_mapIdx]
  by_cases hi : k = i
  · subst hi
    have hl : k < fs.length := (List.getElem?_eq_some_iff.mp hk).1
    rw [if_pos rfl, if_pos hl, hk]
    simp [sfv, upd]
  · rw [if_neg hi]
    have : ¬ i = k := fun e => hi e.symm
    cases fs[i]? with
    | none => rfl
    | some r => cases r with
      | none => simp [sfv, upd, this]
      | some a => rfl
theorem a_putx {o ci n k index : Nat} {fs : List (Option Nat)} {v : Int32} {ty : FieldType} (hfl : FP mt.1.cls index ci k ty) (hn : narrow ty (.int v) = .int v) (hfit : fits ty (.int v) = true) (hs : sh[o]? = some (ci, n, fs)) (hc : ci < 100) (hk : fs[k]? = some none) (d : decode mt.2.1 pc = .ok (.putfield index, 3)) (kk : AW sh mt (pc + 3) al st (up2 μ o k v) Q) : AW sh mt pc al (.int v :: .ref o :: st) μ Q := by
  intro l σ cA D A p e s m args below meth c H locs ls X R S V
  obtain ⟨C, T, N, ty0, h1, h2, h3, h4, h5, h6, h7, h8⟩ := hfl
  have he := wo_at (σ := σ) (cA := cA) (μ := μ) hs
  rw [cel_obj hc] at he
  refine va_put X.1 X.2.1 (Ts := u_ws C T N) (fun w hw => X.2.2.2.2.2.2.2.use (h4 w hw).1 (h4 w hw).2 args) (fun w hw => hw) ty0 h5 h6 X.2.2.2.2.2.1 X.2.2.2.2.2.2.1 R.1 R.2 S o he h1 k h2 (X.2.2.2.2.2.2.2.use h3 rfl args) (fun _ h => h) h7 (v := .int v) h8 hn hfit (by rw [List.length_mapIdx]; exact (List.getElem?_eq_some_iff.mp hk).1) d (fun H1 locs1 hP1 hD1 hS1 => ?_)
  have e2 : (wo sh σ cA μ).set o (σ o, .inr (ci, (fs.mapIdx (sfv σ (μ o))).set k (.int v))) = wo sh σ cA (up2 μ o k v) := by
    rw [sfv_set hk, ← cel_obj (σ := σ) (cA := cA) (f := upd (μ o) k v) (n := n) hc, wo_set hs, up2_eq]
  rw [e2] at hP1 hD1
  exact kk l σ cA D A p e s m args below meth c H1 locs1 ls X ⟨hP1, hD1⟩ hS1 V
theorem a_puti {o ci n k index : Nat} {fs : List (Option Nat)} {v : Int32} (hfl : FP mt.1.cls index ci k .int) (hs : sh[o]? = some (ci, n, fs)) (hc : ci < 100) (hk : fs[k]? = some none) (d : decode mt.2.1 pc = .ok (.putfield index, 3)) (kk : AW sh mt (pc + 3) al st (up2 μ o k v) Q) : AW sh mt pc al (.int v :: .ref o :: st) μ Q := a_putx hfl (vp_nar_int v) rfl hs hc hk d kk
theorem a_iald {o n : Nat} {fs : List (Option Nat)} {i : Int32} {j : Nat} (hs : sh[o]? = some (100, n, fs)) (hi : i = nI j) (hj : j < n) (hn : n < 2 ^ 31) (d : decode mt.2.1 pc = .ok (.iaload, 1)) (kk : AW sh mt (pc + 1) al (.int (μ o j) :: st) μ Q) : AW sh mt pc al (.int i :: .ref o :: st) μ Q := by
  intro l σ cA D A p e s m args below meth c H locs ls X R S V
  have he := wo_at (σ := σ) (cA := cA) (μ := μ) hs
  rw [cel_int] at he
  subst hi
  refine va_iald X.1 X.2.1 X.2.2.2.2.2.2.1 R.1 o 0 he rfl (vp_in_nI hj hn) d ?_
  rw [nI_clamp (Nat.lt_trans hj hn)]
  exact kk l σ cA D A p e s m args below meth c H locs ls X R S V
theorem a_cald {o n : Nat} {fs : List (Option Nat)} {i : Int32} {j : Nat} (hs : sh[o]? = some (101, n, fs)) (hi : i = nI j) (hj : j < n) (hn : n < 2 ^ 31) (d : decode mt.2.1 pc = .ok (.caload, 1)) (kk : AW sh mt (pc + 1) al (.int (μ o j) :: st) μ Q) : AW sh mt pc al (.int i :: .ref o :: st) μ Q := by
  intro l σ cA D A p e s m args below meth c H locs ls X R S V
  have he := wo_at (σ := σ) (cA := cA) (μ := μ) hs
  rw [cel_chr] at he
  subst hi
  refine va_cald X.1 X.2.1 X.2.2.2.2.2.2.1 R.1 o 1 he rfl (vp_in_nI hj hn) d ?_
  rw [nI_clamp (Nat.lt_trans hj hn)]
  exact kk l σ cA D A p e s m args below meth c H locs ls X R S V
theorem a_iast {o n : Nat} {fs : List (Option Nat)} {i x : Int32} {j : Nat} (hs : sh[o]? = some (100, n, fs)) (hi : i = nI j) (hj : j < n) (hn : n < 2 ^ 31) (d : decode mt.2.1 pc = .ok (.iastore, 1)) (kk : AW sh mt (pc + 1) al st (up2 μ o j x) Q) : AW sh mt pc al (.int x :: .int i :: .ref o :: st) μ Q := by
  intro l σ cA D A p e s m args below meth c H locs ls X R S V
  have he := wo_at (σ := σ) (cA := cA) (μ := μ) hs
  rw [cel_int] at he
  subst hi
  refine va_iast X.1 X.2.1 X.2.2.2.2.2.2.1 R.1 R.2 S o 0 he rfl (vp_in_nI hj hn) d (fun H1 locs1 hP1 hD1 hS1 => ?_)
  rw [nI_clamp (Nat.lt_trans hj hn)] at hP1 hD1
  have e2 : (wo sh σ cA μ).set o (σ o, .inl (cA 0, n, .inl (upd (μ o) j x))) = wo sh σ cA (up2 μ o j x) := by
    rw [← cel_int (σ := σ) (cA := cA) (f := upd (μ o) j x) (n := n) (fs := fs), wo_set hs, up2_eq]
  rw [e2] at hP1 hD1
  exact kk l σ cA D A p e s m args below meth c H1 locs1 ls X ⟨hP1, hD1⟩ hS1 V
theorem a_cast {o n : Nat} {fs : List (Option Nat)} {i x : Int32} {j : Nat} (hs : sh[o]? = some (101, n, fs)) (hi : i = nI j) (hj : j < n) (hn : n < 2 ^ 31) (hx : vp_nar .char x = x) (d : decode mt.2.1 pc = .ok (.castore, 1)) (kk : AW sh mt (pc + 1) al st (up2 μ o j x) Q) : AW sh mt pc al (.int x :: .int i :: .ref o :: st) μ Q := by
  intro l σ cA D A p e s m args below meth c H locs ls X R S V
  have he := wo_at (σ := σ) (cA := cA) (μ := μ) hs
  rw [cel_chr] at he
  subst hi
  refine va_cast X.1 X.2.1 X.2.2.2.2.2.2.1 R.1 R.2 S o 1 he rfl (vp_in_nI hj hn) d (fun H1 locs1 hP1 hD1 hS1 => ?_)
  rw [nI_clamp (Nat.lt_trans hj hn), hx] at hP1 hD1
  have e2 : (wo sh σ cA μ).set o (σ o, .inl (cA 1, n, .inl (upd (μ o) j x))) = wo sh σ cA (up2 μ o j x) := by
    rw [← cel_chr (σ := σ) (cA := cA) (f := upd (μ o) j x) (n := n) (fs := fs), wo_set hs, up2_eq]
  rw [e2] at hP1 hD1
  exact kk l σ cA D A p e s m args below meth c H1 locs1 ls X ⟨hP1, hD1⟩ hS1 V
theorem a_aald2 {o n r : Nat} {fs : List (Option Nat)} {i : Int32} {j : Nat} (hs : sh[o]? = some (102, n, fs)) (hi : i = nI j) (hj : j < n) (hn : n < 2 ^ 31) (hr : fs[j]? = some (some r)) (d : decode mt.2.1 pc = .ok (.aaload, 1)) (kk : AW sh mt (pc + 1) al (.ref r :: st) μ Q) : AW sh mt pc al (.int i :: .ref o :: st) μ Q := by
  intro l σ cA D A p e s m args below meth c H locs ls X R S V
  have he := wo_at (σ := σ) (cA := cA) (μ := μ) hs
  rw [cel_ref (by decide)] at he
  subst hi
  refine va_aldq X.1 X.2.1 X.2.2.2.2.2.2.1 R.1 o 2 he rfl (vp_in_nI hj hn) d ?_
  rw [nI_clamp (Nat.lt_trans hj hn)]
  have e3 : (fs.getD j none).map σ = some (σ r) := by rw [List.getD_eq_getElem?_getD, hr]; rfl
  rw [e3]
  exact kk l σ cA D A p e s m args below meth c H locs ls X R S V
theorem a_aald3 {o n r : Nat} {fs : List (Option Nat)} {i : Int32} {j : Nat} (hs : sh[o]? = some (103, n, fs)) (hi : i = nI j) (hj : j < n) (hn : n < 2 ^ 31) (hr : fs[j]? = some (some r)) (d : decode mt.2.1 pc = .ok (.aaload, 1)) (kk : AW sh mt (pc + 1) al (.ref r :: st) μ Q) : AW sh mt pc al (.int i :: .ref o :: st) μ Q := by
  intro l σ cA D A p e s m args below meth c H locs ls X R S V
  have he := wo_at (σ := σ) (cA := cA) (μ := μ) hs
  rw [cel_ref (by decide)] at he
  subst hi
  refine va_aldq X.1 X.2.1 X.2.2.2.2.2.2.1 R.1 o 3 he rfl (vp_in_nI hj hn) d ?_
  rw [nI_clamp (Nat.lt_trans hj hn)]
  have e3 : (fs.getD j none).map σ = some (σ r) := by rw [List.getD_eq_getElem?_getD, hr]; rfl
  rw [e3]
  exact kk l σ cA D A p e s m args below meth c H locs ls X R S V
/-- System.arraycopy of int arrays -/
theorem a_copy {o1 o2 n1 n2 idx : Nat} {f1 f2 : List (Option Nat)} {sp dp n : Int32} {js jd jn : Nat} (hs1 : sh[o1]? = some (100, n1, f1)) (hs2 : sh[o2]? = some (100, n2, f2)) (e1 : sp = nI js) (e2 : dp = nI jd) (e3 : n = nI jn) (hb1 : js + jn ≤ n1) (hb2 : jd + jn ≤ n2) (hn1 : n1 < 2 ^ 31) (hn2 : n2 < 2 ^ 31)
    (hw : Cond.methodLink mt.1.cls idx arraycopyName ∈ lw_tbl) (hw2 : Cond.native arraycopyName ∈ lw_tbl) (hw3 : Cond.static arraycopyName ∈ lw_tbl) (hw4 : Cond.initialized "java/lang/System" ∈ lw_tbl) (hr : 1 ≤ mt.2.2.2.2.1) (hlo : (st.map Value.category).sum + (nativeFrameWords "java/lang/System" "arraycopy" 5 + 11) ≤ mt.2.2.2.2.2)
    (d : decode mt.2.1 pc = .ok (.invokestatic idx, 3)) (kk : AW sh mt (pc + 3) al st (upA μ o2 (va_cpy (μ o1) (μ o2) js jd jn)) Q) : AW sh mt pc al (.int n :: .int dp :: .ref o2 :: .int sp :: .ref o1 :: st) μ Q := by
  intro l σ cA D A p e s m args below meth c H locs ls X R S V
  have he1 := wo_at (σ := σ) (cA := cA) (μ := μ) hs1
  rw [cel_int] at he1
  have he2 := wo_at (σ := σ) (cA := cA) (μ := μ) hs2
  rw [cel_int] at he2
  have b1 : js < 2 ^ 31 := by omega
  have b2 : jd < 2 ^ 31 := by omega
  have b3 : jn < 2 ^ 31 := by omega
  subst e1; subst e2; subst e3
  refine va_copyi X.1 X.2.1 (X.2.2.1.trans V.1.symm) X.2.2.2.2.2.1 (X.2.2.2.2.2.2.2.use hw rfl args) (X.2.2.2.2.2.2.2.use hw2 rfl args) (X.2.2.2.2.2.2.2.use hw3 rfl args) (X.2.2.2.2.2.2.2.use hw4 rfl args) X.2.2.2.2.2.2.1 R.1 R.2 S o1 o2 0 0 he1 he2 rfl rfl rfl (nI_pos b1) (nI_pos b2) (nI_pos b3) (by rw [nI_clamp b1, nI_clamp b3]; exact hb1) (by rw [nI_clamp b2, nI_clamp b3]; exact hb2) (fun _ _ => rfl) hr ?_ d (fun H1 locs1 hP1 hD1 hS1 => ?_)
  · have e5 : ((st.map (cvl σ)).map fun v => v.category).sum = (st.map Value.category).sum := by
      rw [List.map_map]; congr 1; apply List.map_congr_left; intro v _; exact cvl_cat σ v
    rw [e5]; exact hlo
  · rw [nI_clamp b1, nI_clamp b2, nI_clamp b3] at hP1 hD1
    have e6 : (wo sh σ cA μ).set o2 (σ o2, .inl (cA 0, n2, .inl (va_cpy (μ o1) (μ o2) js jd jn))) = wo sh σ cA (upA μ o2 (va_cpy (μ o1) (μ o2) js jd jn)) := by
      rw [← cel_int (σ := σ) (cA := cA) (f := va_cpy (μ o1) (μ o2) js jd jn) (n := n2) (fs := f2), wo_set hs2]
    rw [e6] at hP1 hD1
    exact kk l σ cA D A p e s m args below meth c H1 locs1 ls X ⟨hP1, hD1⟩ hS1 V
theorem map_cat (σ : Nat → Nat) (st : List Value) : ((st.map (cvl σ)).map fun v => v.category).sum = (st.map Value.category).sum := by
  rw [List.map_map]; congr 1; apply List.map_congr_left; intro v _; exact cvl_cat σ v
theorem a_mmax {idx : Nat} {x y : Int32} (hw : Cond.methodLink mt.1.cls idx Lib.Math.max.name ∈ lw_tbl) (hw2 : Cond.static Lib.Math.max.name ∈ lw_tbl) (hw3 : Cond.initialized "java/lang/Math" ∈ lw_tbl) (hw4 : Cond.code Lib.Math.max.name Lib.Math.max.code 2 (some .int) ∈ lw_tbl) (hr : 1 ≤ mt.2.2.2.2.1) (hlo : (st.map Value.category).sum + 13 ≤ mt.2.2.2.2.2) (d : decode mt.2.1 pc = .ok (.invokestatic idx, 3)) (kk : AW sh mt (pc + 3) al (.int (if x < y then y else x) :: st) μ Q) : AW sh mt pc al (.int y :: .int x :: st) μ Q := by
  intro l σ cA D A p e s m args below meth c H locs ls X R S V
  exact va_mmax X.1 X.2.1 (X.2.2.1.trans V.1.symm) X.2.2.2.2.2.1 (X.2.2.2.2.2.2.2.use hw rfl args) (X.2.2.2.2.2.2.2.use hw2 rfl args) (X.2.2.2.2.2.2.2.use hw3 rfl args) (X.2.2.2.2.2.2.2.use hw4 rfl args) hr (by rw [map_cat]; exact hlo) (Nat.le_refl _) (Nat.le_refl _) d (kk l σ cA D A p e s m args below meth c H locs ls X R S V)
theorem a_mmin {idx : Nat} {x y : Int32} (hw : Cond.methodLink mt.1.cls idx Lib.Math.min.name ∈ lw_tbl) (hw2 : Cond.static Lib.Math.min.name ∈ lw_tbl) (hw3 : Cond.initialized "java/lang/Math" ∈ lw_tbl) (hw4 : Cond.code Lib.Math.min.name Lib.Math.min.code 2 (some .int) ∈ lw_tbl) (hr : 1 ≤ mt.2.2.2.2.1) (hlo : (st.map Value.category).sum + 13 ≤ mt.2.2.2.2.2) (d : decode mt.2.1 pc = .ok (.invokestatic idx, 3)) (kk : AW sh mt (pc + 3) al (.int (if y < x then y else x) :: st) μ Q) : AW sh mt pc al (.int y :: .int x :: st) μ Q := by
  intro l σ cA D A p e s m args below meth c H locs ls X R S V
  exact va_mmin X.1 X.2.1 (X.2.2.1.trans V.1.symm) X.2.2.2.2.2.1 (X.2.2.2.2.2.2.2.use hw rfl args) (X.2.2.2.2.2.2.2.use hw2 rfl args) (X.2.2.2.2.2.2.2.use hw3 rfl args) (X.2.2.2.2.2.2.2.use hw4 rfl args) hr (by rw [map_cat]; exact hlo) (Nat.le_refl _) (Nat.le_refl _) d (kk l σ cA D A p e s m args below meth c H locs ls X R S V)
end CELLS
end
section
/-! a method's contract out of its walk; calls -/
theorem lv_args1 : ∀ (vs : List Value) (i : Nat), (∀ v ∈ vs, v.category = 1) → ∀ (j : Nat) (v : Value), vs[j]? = some v → (i + j, v) ∈ lv_args i vs
  | [], _, _, j, v, h => by simp at h
  | w :: vs, i, hc, 0, v, h => by
    simp at h
    subst h
    exact List.mem_cons_self
  | w :: vs, i, hc, j + 1, v, h => by
    have hw : ¬ w.category = 2 := by rw [hc w List.mem_cons_self]; decide
    have h2 := lv_args1 vs (i + 1) (fun v hv => hc v (List.mem_cons_of_mem _ hv)) j v (by simpa using h)
    unfold lv_args
    rw [if_neg hw]
    refine List.mem_cons_of_mem _ ?_
    rw [show i + (j + 1) = i + 1 + j by omega]
    exact h2
theorem lg_sl1 : ∀ (vs : List Value), (∀ v ∈ vs, v.category = 1) → (lg_sl vs).length = vs.length
  | [], _ => rfl
  | w :: vs, hc => by
    have hw : ¬ w.category = 2 := by rw [hc w List.mem_cons_self]; decide
    have h2 := lg_sl1 vs (fun v hv => hc v (List.mem_cons_of_mem _ hv))
    unfold lg_sl at h2 ⊢
    rw [List.flatMap_cons, if_neg hw, List.length_append, h2]
    simp [Nat.add_comm]
def cat1 (vs : List Value) : Bool := vs.all (fun v => v.category == 1)
section CALLS
variable {sh : Shp} {mt : Mt} {pc : Nat} {al : List (Option Value)} {st : List Value} {μ : Mem} {Q : Int32 → Mem → Prop}
theorem Con.ofAW {vs : List Value} {al0 : List (Option Value)} (hy : plainName mt.1.cls = true) (hc : cat1 vs = true) (hn : vs.length ≤ mt.2.2.1) (ha : vs.map some ++ List.replicate (mt.2.2.1 - vs.length) none = al0) (h : AW sh mt 0 al0 [] μ Q) : Con sh mt vs μ Q := by
  intro l σ cA D A
  refine Met.ofW (cc := mt.2.1) (maxL := mt.2.2.1) (ret := mt.2.2.2.1) hy rfl ?_
  intro p e s m args below meth c s₁ B hml hv
  obtain ⟨rfl, hK, hF, hR⟩ := hv
  have hown : s.vm.findClass mt.1.cls = some m.cls := findClass_of_methodNamed B.named
  have hc1 : ∀ v ∈ vs, v.category = 1 := fun v hv => by simpa using List.all_eq_true.mp hc v hv
  have hc' : ∀ v ∈ vs.map (cvl σ), v.category = 1 := by
    intro v hv
    obtain ⟨w, hw, rfl⟩ := List.mem_map.mp hv
    rw [cvl_cat]; exact hc1 w hw
  have hl := lv_entry (vs.map (cvl σ)) (n := mt.2.2.1) (by rw [lg_sl1 _ hc', List.length_map]; exact hn)
  rw [lg_entry_eq]
  refine h l σ cA D A p e s m _ below meth c s.heap [] _ ⟨B.exec, B.bytes, hml, B.returns, B.notSynchronized, hown, hK, hF⟩ hR va_S.rf ⟨hl.1, hl.2.1, fun q hq => ?_⟩
  obtain ⟨v, h1, h2⟩ := mem_toL.mp hq
  have h3 : vs[q.1]? = some v := by
    rw [← ha] at h1
    by_cases hq1 : q.1 < vs.length
    · rw [List.getElem?_append_left (by rw [List.length_map]; exact hq1), List.getElem?_map] at h1
      cases hx : vs[q.1]? with
      | none => rw [hx] at h1; cases h1
      | some w => rw [hx] at h1; cases h1; rfl
    · rw [List.getElem?_append_right (by rw [List.length_map]; omega), List.getElem?_replicate] at h1
      split at h1 <;> cases h1
  have h4 := lv_args1 (vs.map (cvl σ)) 0 hc' q.1 (cvl σ v) (by rw [List.getElem?_map, h3]; rfl)
  rw [Nat.zero_add, ← h2] at h4
  exact hl.2.2 q h4
theorem Qc_mono {ret : Option FieldType} {σ : Nat → Nat} {cA : Nat → ClassId} {D : va_G} {A : Nat → Prop} {Q' : Int32 → Mem → Prop} (hq : ∀ r u, Q r u → Q' r u) {a : Array Value} {s t : State} {o : Outcome} (h : Qc sh ret σ cA D A Q a s o t) : Qc sh ret σ cA D A Q' a s o t := by
  cases ret with
  | none =>
    obtain ⟨⟨u, q1, q2, q3⟩, q4⟩ := h
    exact ⟨⟨u, q1, hq _ _ q2, q3⟩, q4⟩
  | some ty =>
    obtain ⟨⟨r, u, q1, q2, q3⟩, q4⟩ := h
    exact ⟨⟨r, u, q1, hq _ _ q2, q3⟩, q4⟩
theorem AW.mono {Q' : Int32 → Mem → Prop} (h : AW sh mt pc al st μ Q) (hq : ∀ r u, Q r u → Q' r u) : AW sh mt pc al st μ Q' := by
  intro l σ cA D A p e s m args below meth c H locs ls X R S V T hT Y
  obtain ⟨t, h1, o, h2, h3, h4, h5⟩ := h l σ cA D A p e s m args below meth c H locs ls X R S V T hT Y
  exact ⟨t, h1, o, h2, h3, Qc_mono hq h4, h5⟩
/-- what the tables say of a call: virtual (own or nest), static -/
def CKb (own : String) (idx : Nat) (mt' : Mt) (n : Nat) : Prop := Cond.methodLink own idx mt'.1 ∈ lw_tbl ∧ Cond.initialized mt'.1.cls ∈ lw_tbl ∧ Cond.code mt'.1 mt'.2.1 mt'.2.2.1 mt'.2.2.2.1 ∈ lw_tbl ∧ (mt'.1.cls ≠ "java/lang/invoke/MethodHandle" ∧ mt'.1.cls ≠ "java/lang/invoke/VarHandle") ∧ (parseMethodDescriptor mt'.1.desc).map (fun d => d.parameters.length) = some n
def CK (own : String) (idx : Nat) (mt' : Mt) (n ci : Nat) : Prop := CKb own idx mt' n ∧ Cond.instanceMethod mt'.1 ∈ lw_tbl ∧ Cond.selects mt'.1.cls mt'.1 mt'.1 ∈ lw_tbl ∧ ∃ T N, vwCl[ci]? = some (mt'.1.cls, T, N)
def CS (own : String) (idx : Nat) (mt' : Mt) (n : Nat) : Prop := CKb own idx mt' n ∧ Cond.static mt'.1 ∈ lw_tbl
def Fits (mt mt' : Mt) : Prop := mt'.2.2.2.2.1 + 1 ≤ mt.2.2.2.2.1 ∧ 8 + (mt'.2.2.1 + 11) + mt'.2.2.2.2.2 ≤ mt.2.2.2.2.2
theorem callB_Fx {s : State} {args : Array Value} {own : String} {idx n : Nat} {mt' : Mt} (hF : Fx s) (h : CKb own idx mt' n) (hf : Fits mt mt') : CallB (rmOf mt) s args own idx mt'.1 mt'.2.1 mt'.2.2.1 mt'.2.2.2.1 [.code mt'.1 mt'.2.1 mt'.2.2.1 mt'.2.2.2.1] (rmOf mt') 0 0 n := by
  obtain ⟨h1, h2, h3, h4, h5⟩ := h
  refine ⟨rfl, rfl, hf.1, hf.2, fun w hw a' U hW => ?_, List.mem_singleton.mpr rfl, hF.use h3 rfl args, hF.use h2 rfl args, h4, fun sig hs => ?_, hF.use h1 rfl args⟩
  · rw [List.mem_singleton.mp hw]
    exact (hF.warm hW).use h3 rfl a'
  · rw [hs] at h5
    exact (Option.some.inj h5).symm
theorem blind_Pc {vs : List Value} {σ : Nat → Nat} {cA : Nat → ClassId} {D : va_G} {A : Nat → Prop} : FrameBlind (fun a U => a = (vs.map (cvl σ)).toArray ∧ va_K D vwCl (tysA cA) U ∧ Fx U ∧ Rp sh σ cA D A μ U.heap) := by
  intro a U g mk q
  obtain ⟨q1, q2, q3, q4⟩ := q
  exact ⟨q1, va_K.moved (u := U) (U := U.calling g mk a) (Vm.Alike.refl U.vm) q2, q3.same rfl, q4⟩
theorem a_callV {mt' : Mt} {idx n ci nn b : Nat} {fs : List (Option Nat)} {As : List Value} {Q' : Int32 → Mem → Prop} (ck : CK mt.1.cls idx mt' n ci) (hf : Fits mt mt') (hs : sh[b]? = some (ci, nn, fs)) (hci : ci < 100) (hn : As.length = n) (hst : (st.map Value.category).sum ≤ 8) (d : decode mt.2.1 pc = .ok (.invokevirtual idx, 3)) (hr : mt'.2.2.2.1 = none) (hC : Con sh mt' (.ref b :: As) μ Q') (kk : ∀ u, Q' 0 u → AW sh mt (pc + 3) al st u Q) : AW sh mt pc al (As.reverse ++ .ref b :: st) μ Q := by
  intro l σ cA D A p e s m args below meth c H locs ls X R S V
  obtain ⟨ck1, ck2, ck3, T, N, ck4⟩ := ck
  have hF := X.2.2.2.2.2.2.2
  have hK := X.2.2.2.2.2.2.1
  have he := wo_at (σ := σ) (cA := cA) (μ := μ) hs
  rw [cel_obj hci] at he
  have hM := hC l σ cA D A
  rw [hr] at hM
  refine va_callv (a := ((Value.ref b :: As).map (cvl σ)).toArray) (va_runV (As := As.map (cvl σ)) (b := σ b) (rest := st.map (cvl σ)) (C := mt'.1.cls) (Ts := []) ⟨X.1, X.2.1, X.2.2.1, X.2.2.2.2.2.1, fun w h => by cases h⟩ hM ⟨hr ▸ callB_Fx hF ck1 hf, hF.use ck2 rfl args, hF.use ck3 rfl args⟩ ⟨blind_Pc, va_recv hK R.1 ck4 he, fun U hU hW => ⟨rfl, va_K.moved hW.alike hK, hF.warm hW, by rw [hU]; exact R⟩⟩ rfl (by rw [List.length_map]; exact hn) V.1 (by simp [cvl]) (lv_room (by rw [map_cat]; exact hst)) d ⟨Nat.le_refl _, Nat.le_refl _⟩) S (fun q _ h => h) (fun q h => h) (fun u t H1 locs1 ht hvm hw hB hz1 hk1 hS => ?_)
  rw [ht] at hB
  exact kk u hw l σ cA D A p e s m args below meth c H1 locs1 ls X hB hS V
theorem a_callI {mt' : Mt} {idx n ci nn b : Nat} {fs : List (Option Nat)} {As : List Value} {Q' : Int32 → Mem → Prop} {ty : FieldType} (ck : CK mt.1.cls idx mt' n ci) (hf : Fits mt mt') (hs : sh[b]? = some (ci, nn, fs)) (hci : ci < 100) (hn : As.length = n) (hst : (st.map Value.category).sum ≤ 8) (d : decode mt.2.1 pc = .ok (.invokevirtual idx, 3)) (hr : mt'.2.2.2.1 = some ty) (hC : Con sh mt' (.ref b :: As) μ Q') (kk : ∀ r u, Q' r u → AW sh mt (pc + 3) al (.int r :: st) u Q) : AW sh mt pc al (As.reverse ++ .ref b :: st) μ Q := by
  intro l σ cA D A p e s m args below meth c H locs ls X R S V
  obtain ⟨ck1, ck2, ck3, T, N, ck4⟩ := ck
  have hF := X.2.2.2.2.2.2.2
  have hK := X.2.2.2.2.2.2.1
  have he := wo_at (σ := σ) (cA := cA) (μ := μ) hs
  rw [cel_obj hci] at he
  have hM := hC l σ cA D A
  rw [hr] at hM
  refine va_calli (a := ((Value.ref b :: As).map (cvl σ)).toArray) (va_runV (As := As.map (cvl σ)) (b := σ b) (rest := st.map (cvl σ)) (C := mt'.1.cls) (Ts := []) ⟨X.1, X.2.1, X.2.2.1, X.2.2.2.2.2.1, fun w h => by cases h⟩ hM ⟨hr ▸ callB_Fx hF ck1 hf, hF.use ck2 rfl args, hF.use ck3 rfl args⟩ ⟨blind_Pc, va_recv hK R.1 ck4 he, fun U hU hW => ⟨rfl, va_K.moved hW.alike hK, hF.warm hW, by rw [hU]; exact R⟩⟩ rfl (by rw [List.length_map]; exact hn) V.1 (by simp [cvl]) (lv_room (by rw [map_cat]; exact hst)) d ⟨Nat.le_refl _, Nat.le_refl _⟩) S (fun q _ h => h) (fun q h => h) (fun r u t H1 locs1 ht hvm hw hB hz1 hk1 hS => ?_)
  rw [ht] at hB
  exact kk r u hw l σ cA D A p e s m args below meth c H1 locs1 ls X hB hS V
theorem a_callS {mt' : Mt} {idx n : Nat} {As : List Value} {Q' : Int32 → Mem → Prop} {ty : FieldType} (ck : CS mt.1.cls idx mt' n) (hf : Fits mt mt') (hn : As.length = n) (hst : (st.map Value.category).sum ≤ 8) (d : decode mt.2.1 pc = .ok (.invokestatic idx, 3)) (hr : mt'.2.2.2.1 = some ty) (hC : Con sh mt' As μ Q') (kk : ∀ r u, Q' r u → AW sh mt (pc + 3) al (.int r :: st) u Q) : AW sh mt pc al (As.reverse ++ st) μ Q := by
  intro l σ cA D A p e s m args below meth c H locs ls X R S V
  obtain ⟨ck1, ck2⟩ := ck
  have hF := X.2.2.2.2.2.2.2
  have hK := X.2.2.2.2.2.2.1
  have hM := hC l σ cA D A
  rw [hr] at hM
  refine va_calli (a := (As.map (cvl σ)).toArray) (va_runS (As := As.map (cvl σ)) (rest := st.map (cvl σ)) (Ts := []) ⟨X.1, X.2.1, X.2.2.1, X.2.2.2.2.2.1, fun w h => by cases h⟩ hM ⟨hr ▸ callB_Fx hF ck1 hf, hF.use ck2 rfl args⟩ ⟨blind_Pc, fun U hU hW => ⟨rfl, va_K.moved hW.alike hK, hF.warm hW, by rw [hU]; exact R⟩⟩ rfl (by rw [List.length_map]; exact hn) V.1 (by simp) (lv_room (by rw [map_cat]; exact hst)) d ⟨Nat.le_refl _, Nat.le_refl _⟩) S (fun q _ h => h) (fun q h => h) (fun r u t H1 locs1 ht hvm hw hB hz1 hk1 hS => ?_)
  rw [ht] at hB
  exact kk r u hw l σ cA D A p e s m args below meth c H1 locs1 ls X hB hS V
/-- the one call of a nest mate's private method: HeardSlots.drawnNumber out of Net -/
theorem a_callN {mt' : Mt} {As : List Value} {Q' : Int32 → Mem → Prop} {ty : FieldType} (hown : mt.1.cls = RX2) (hy : mt'.1 = yX6_drawnNumber) (h2 : Cond.initialized mt'.1.cls ∈ lw_tbl) (h3 : Cond.code mt'.1 mt'.2.1 mt'.2.2.1 mt'.2.2.2.1 ∈ lw_tbl) (h4 : Cond.static mt'.1 ∈ lw_tbl) (hf : Fits mt mt') (hn : As.length = 3) (hst : (st.map Value.category).sum ≤ 8) (d : decode mt.2.1 pc = .ok (.invokestatic 96, 3)) (hr : mt'.2.2.2.1 = some ty) (hC : Con sh mt' As μ Q') (kk : ∀ r u, Q' r u → AW sh mt (pc + 3) al (.int r :: st) u Q) : AW sh mt pc al (As.reverse ++ st) μ Q := by
  intro l σ cA D A p e s m args below meth c H locs ls X R S V
  have hF := X.2.2.2.2.2.2.2
  have hK := X.2.2.2.2.2.2.1
  have hM := hC l σ cA D A
  rw [hr] at hM
  refine va_calli (a := (As.map (cvl σ)).toArray) (va_runSN (As := As.map (cvl σ)) (rest := st.map (cvl σ)) (Ts := []) (n := 3) (bytes := mt'.2.1) (maxL := mt'.2.2.1) (ret := some ty) (host := "HeardSlots") ⟨X.1, X.2.1, X.2.2.1, X.2.2.2.2.2.1, fun w h => by cases h⟩ hM ⟨⟨⟨rfl, rfl, hf.1, hf.2, fun w hw a' U hW => ?_, List.mem_singleton.mpr rfl⟩, hr ▸ hF.use h3 rfl args, hF.use h2 rfl args, ?_, fun sig hs => ?_, ?_⟩, hF.use h4 rfl args, trivial⟩ ⟨blind_Pc, fun U hU hW => ⟨rfl, va_K.moved hW.alike hK, hF.warm hW, by rw [hU]; exact R⟩⟩ rfl (by rw [List.length_map]; exact hn) V.1 (by simp) (lv_room (by rw [map_cat]; exact hst)) d ⟨Nat.le_refl _, Nat.le_refl _⟩) S (fun q _ h => h) (fun q h => h) (fun r u t H1 locs1 ht hvm hw hB hz1 hk1 hS => ?_)
  · rw [List.mem_singleton.mp hw]
    exact (hF.warm hW).use (hr ▸ h3) rfl a'
  · rw [hy]; exact ⟨by decide +kernel, by decide +kernel⟩
  · rw [hy] at hs
    have h5 : (parseMethodDescriptor yX6_drawnNumber.desc).map (fun d => d.parameters.length) = some 3 := by decide +kernel
    rw [hs] at h5
    exact (Option.some.inj h5).symm
  · rw [hown, hy]
    exact va_Nw.use rfl hF.2
  · rw [ht] at hB
    exact kk r u hw l σ cA D A p e s m args below meth c H1 locs1 ls X hB hS V
end CALLS
end
section
theorem hw_in0 : ∀ w ∈ u_ws RX0 TX0 3, w ∈ lw_tbl ∧ hs_word w = true := by decide +kernel
theorem hw_in1 : ∀ w ∈ u_ws RX1 TX1 2, w ∈ lw_tbl ∧ hs_word w = true := by decide +kernel
theorem hw_in2 : ∀ w ∈ u_ws RX2 TX2 10, w ∈ lw_tbl ∧ hs_word w = true := by decide +kernel
theorem hw_in3 : ∀ w ∈ u_ws RX3 TX3 5, w ∈ lw_tbl ∧ hs_word w = true := by decide +kernel
theorem hw_in4 : ∀ w ∈ u_ws RX4 TX4 4, w ∈ lw_tbl ∧ hs_word w = true := by decide +kernel
theorem hw_in5 : ∀ w ∈ u_ws RX5 TX5 19, w ∈ lw_tbl ∧ hs_word w = true := by decide +kernel
theorem hw_in6 : ∀ w ∈ u_ws RX6 TX6 8, w ∈ lw_tbl ∧ hs_word w = true := by decide +kernel
theorem hw_in7 : ∀ w ∈ u_ws RX7 TX7 18, w ∈ lw_tbl ∧ hs_word w = true := by decide +kernel
theorem fl_X0_9 : FL RX0 9 0 1 := ⟨RX0, TX0, 3, rfl, by decide, List.mem_append_right _ (List.mem_of_getElem? (i := 48) (by decide +kernel)), hw_in0⟩
theorem fl_X0_15 : FL RX0 15 0 2 := ⟨RX0, TX0, 3, rfl, by decide, List.mem_append_right _ (List.mem_of_getElem? (i := 51) (by decide +kernel)), hw_in0⟩
theorem fl_X0_18 : FL RX0 18 0 0 := ⟨RX0, TX0, 3, rfl, by decide, List.mem_append_right _ (List.mem_of_getElem? (i := 43) (by decide +kernel)), hw_in0⟩
theorem fp_X0_18 : FP RX0 18 0 0 .int := ⟨RX0, TX0, 3, tyX0, rfl, by decide, List.mem_append_right _ (List.mem_of_getElem? (i := 43) (by decide +kernel)), hw_in0, tyX0_ok, nmX0, rfl, by decide +kernel⟩
theorem fl_X1_11 : FL RX1 11 1 1 := ⟨RX1, TX1, 2, rfl, by decide, List.mem_append_right _ (List.mem_of_getElem? (i := 72) (by decide +kernel)), hw_in1⟩
theorem fl_X1_15 : FL RX1 15 1 0 := ⟨RX1, TX1, 2, rfl, by decide, List.mem_append_right _ (List.mem_of_getElem? (i := 70) (by decide +kernel)), hw_in1⟩
theorem fp_X1_15 : FP RX1 15 1 0 .int := ⟨RX1, TX1, 2, tyX1, rfl, by decide, List.mem_append_right _ (List.mem_of_getElem? (i := 70) (by decide +kernel)), hw_in1, tyX1_ok, nmX1, rfl, by decide +kernel⟩
theorem fl_X2_9 : FL RX2 9 2 8 := ⟨RX2, TX2, 10, rfl, by decide, List.mem_append_right _ (List.mem_of_getElem? (i := 209) (by decide +kernel)), hw_in2⟩
theorem fl_X2_17 : FL RX2 17 2 9 := ⟨RX2, TX2, 10, rfl, by decide, List.mem_append_right _ (List.mem_of_getElem? (i := 211) (by decide +kernel)), hw_in2⟩
theorem fl_X2_22 : FL RX2 22 2 0 := ⟨RX2, TX2, 10, rfl, by decide, List.mem_append_right _ (List.mem_of_getElem? (i := 188) (by decide +kernel)), hw_in2⟩
theorem fp_X2_22 : FP RX2 22 2 0 .int := ⟨RX2, TX2, 10, tyX2, rfl, by decide, List.mem_append_right _ (List.mem_of_getElem? (i := 188) (by decide +kernel)), hw_in2, tyX2_ok, nmX2, rfl, by decide +kernel⟩
theorem fl_X2_26 : FL RX2 26 2 1 := ⟨RX2, TX2, 10, rfl, by decide, List.mem_append_right _ (List.mem_of_getElem? (i := 191) (by decide +kernel)), hw_in2⟩
theorem fp_X2_26 : FP RX2 26 2 1 .int := ⟨RX2, TX2, 10, tyX2, rfl, by decide, List.mem_append_right _ (List.mem_of_getElem? (i := 191) (by decide +kernel)), hw_in2, tyX2_ok, nmX2, rfl, by decide +kernel⟩
theorem fl_X2_29 : FL RX2 29 2 2 := ⟨RX2, TX2, 10, rfl, by decide, List.mem_append_right _ (List.mem_of_getElem? (i := 194) (by decide +kernel)), hw_in2⟩
theorem fp_X2_29 : FP RX2 29 2 2 .int := ⟨RX2, TX2, 10, tyX2, rfl, by decide, List.mem_append_right _ (List.mem_of_getElem? (i := 194) (by decide +kernel)), hw_in2, tyX2_ok, nmX2, rfl, by decide +kernel⟩
theorem fl_X2_32 : FL RX2 32 2 3 := ⟨RX2, TX2, 10, rfl, by decide, List.mem_append_right _ (List.mem_of_getElem? (i := 197) (by decide +kernel)), hw_in2⟩
theorem fp_X2_32 : FP RX2 32 2 3 .int := ⟨RX2, TX2, 10, tyX2, rfl, by decide, List.mem_append_right _ (List.mem_of_getElem? (i := 197) (by decide +kernel)), hw_in2, tyX2_ok, nmX2, rfl, by decide +kernel⟩
theorem fl_X2_35 : FL RX2 35 2 4 := ⟨RX2, TX2, 10, rfl, by decide, List.mem_append_right _ (List.mem_of_getElem? (i := 200) (by decide +kernel)), hw_in2⟩
theorem fp_X2_35 : FP RX2 35 2 4 .int := ⟨RX2, TX2, 10, tyX2, rfl, by decide, List.mem_append_right _ (List.mem_of_getElem? (i := 200) (by decide +kernel)), hw_in2, tyX2_ok, nmX2, rfl, by decide +kernel⟩
theorem fl_X2_38 : FL RX2 38 2 5 := ⟨RX2, TX2, 10, rfl, by decide, List.mem_append_right _ (List.mem_of_getElem? (i := 203) (by decide +kernel)), hw_in2⟩
theorem fp_X2_38 : FP RX2 38 2 5 .int := ⟨RX2, TX2, 10, tyX2, rfl, by decide, List.mem_append_right _ (List.mem_of_getElem? (i := 203) (by decide +kernel)), hw_in2, tyX2_ok, nmX2, rfl, by decide +kernel⟩
theorem fl_X2_41 : FL RX2 41 2 6 := ⟨RX2, TX2, 10, rfl, by decide, List.mem_append_right _ (List.mem_of_getElem? (i := 206) (by decide +kernel)), hw_in2⟩
theorem fp_X2_41 : FP RX2 41 2 6 .int := ⟨RX2, TX2, 10, tyX2, rfl, by decide, List.mem_append_right _ (List.mem_of_getElem? (i := 206) (by decide +kernel)), hw_in2, tyX2_ok, nmX2, rfl, by decide +kernel⟩
theorem fl_X2_44 : FL RX2 44 2 7 := ⟨RX2, TX2, 10, rfl, by decide, List.mem_append_right _ (List.mem_of_getElem? (i := 208) (by decide +kernel)), hw_in2⟩
theorem fp_X2_44 : FP RX2 44 2 7 .int := ⟨RX2, TX2, 10, tyX2, rfl, by decide, List.mem_append_right _ (List.mem_of_getElem? (i := 208) (by decide +kernel)), hw_in2, tyX2_ok, nmX2, rfl, by decide +kernel⟩
theorem fl_X2_60 : FL RX2 60 5 0 := ⟨RX5, TX5, 19, rfl, by decide, List.mem_append_right _ (List.mem_of_getElem? (i := 104) (by decide +kernel)), hw_in5⟩
theorem fp_X2_60 : FP RX2 60 5 0 .int := ⟨RX5, TX5, 19, tyX5, rfl, by decide, List.mem_append_right _ (List.mem_of_getElem? (i := 104) (by decide +kernel)), hw_in5, tyX5_ok, nmX5, rfl, by decide +kernel⟩
theorem fl_X2_74 : FL RX2 74 5 1 := ⟨RX5, TX5, 19, rfl, by decide, List.mem_append_right _ (List.mem_of_getElem? (i := 107) (by decide +kernel)), hw_in5⟩
theorem fp_X2_74 : FP RX2 74 5 1 .int := ⟨RX5, TX5, 19, tyX5, rfl, by decide, List.mem_append_right _ (List.mem_of_getElem? (i := 107) (by decide +kernel)), hw_in5, tyX5_ok, nmX5, rfl, by decide +kernel⟩
theorem fl_X2_81 : FL RX2 81 5 15 := ⟨RX5, TX5, 19, rfl, by decide, List.mem_append_right _ (List.mem_of_getElem? (i := 141) (by decide +kernel)), hw_in5⟩
theorem fl_X2_85 : FL RX2 85 0 0 := ⟨RX0, TX0, 3, rfl, by decide, List.mem_append_right _ (List.mem_of_getElem? (i := 46) (by decide +kernel)), hw_in0⟩
theorem fp_X2_85 : FP RX2 85 0 0 .int := ⟨RX0, TX0, 3, tyX0, rfl, by decide, List.mem_append_right _ (List.mem_of_getElem? (i := 46) (by decide +kernel)), hw_in0, tyX0_ok, nmX0, rfl, by decide +kernel⟩
theorem fl_X2_90 : FL RX2 90 5 3 := ⟨RX5, TX5, 19, rfl, by decide, List.mem_append_right _ (List.mem_of_getElem? (i := 113) (by decide +kernel)), hw_in5⟩
theorem fp_X2_90 : FP RX2 90 5 3 .int := ⟨RX5, TX5, 19, tyX5, rfl, by decide, List.mem_append_right _ (List.mem_of_getElem? (i := 113) (by decide +kernel)), hw_in5, tyX5_ok, nmX5, rfl, by decide +kernel⟩
theorem fl_X2_93 : FL RX2 93 5 8 := ⟨RX5, TX5, 19, rfl, by decide, List.mem_append_right _ (List.mem_of_getElem? (i := 127) (by decide +kernel)), hw_in5⟩
theorem fp_X2_93 : FP RX2 93 5 8 .int := ⟨RX5, TX5, 19, tyX5, rfl, by decide, List.mem_append_right _ (List.mem_of_getElem? (i := 127) (by decide +kernel)), hw_in5, tyX5_ok, nmX5, rfl, by decide +kernel⟩
theorem fl_X2_100 : FL RX2 100 5 4 := ⟨RX5, TX5, 19, rfl, by decide, List.mem_append_right _ (List.mem_of_getElem? (i := 117) (by decide +kernel)), hw_in5⟩
theorem fp_X2_100 : FP RX2 100 5 4 .int := ⟨RX5, TX5, 19, tyX5, rfl, by decide, List.mem_append_right _ (List.mem_of_getElem? (i := 117) (by decide +kernel)), hw_in5, tyX5_ok, nmX5, rfl, by decide +kernel⟩
theorem fl_X2_103 : FL RX2 103 5 9 := ⟨RX5, TX5, 19, rfl, by decide, List.mem_append_right _ (List.mem_of_getElem? (i := 131) (by decide +kernel)), hw_in5⟩
theorem fp_X2_103 : FP RX2 103 5 9 .int := ⟨RX5, TX5, 19, tyX5, rfl, by decide, List.mem_append_right _ (List.mem_of_getElem? (i := 131) (by decide +kernel)), hw_in5, tyX5_ok, nmX5, rfl, by decide +kernel⟩
theorem fl_X2_106 : FL RX2 106 5 17 := ⟨RX5, TX5, 19, rfl, by decide, List.mem_append_right _ (List.mem_of_getElem? (i := 146) (by decide +kernel)), hw_in5⟩
theorem fl_X2_110 : FL RX2 110 4 0 := ⟨RX4, TX4, 4, rfl, by decide, List.mem_append_right _ (List.mem_of_getElem? (i := 86) (by decide +kernel)), hw_in4⟩
theorem fp_X2_110 : FP RX2 110 4 0 .int := ⟨RX4, TX4, 4, tyX4, rfl, by decide, List.mem_append_right _ (List.mem_of_getElem? (i := 86) (by decide +kernel)), hw_in4, tyX4_ok, nmX4, rfl, by decide +kernel⟩
theorem fl_X2_115 : FL RX2 115 5 10 := ⟨RX5, TX5, 19, rfl, by decide, List.mem_append_right _ (List.mem_of_getElem? (i := 133) (by decide +kernel)), hw_in5⟩
theorem fp_X2_115 : FP RX2 115 5 10 .boolean := ⟨RX5, TX5, 19, tyX5, rfl, by decide, List.mem_append_right _ (List.mem_of_getElem? (i := 133) (by decide +kernel)), hw_in5, tyX5_ok, nmX5, rfl, by decide +kernel⟩
theorem fl_X2_123 : FL RX2 123 0 2 := ⟨RX0, TX0, 3, rfl, by decide, List.mem_append_right _ (List.mem_of_getElem? (i := 54) (by decide +kernel)), hw_in0⟩
theorem fl_X2_144 : FL RX2 144 5 18 := ⟨RX5, TX5, 19, rfl, by decide, List.mem_append_right _ (List.mem_of_getElem? (i := 148) (by decide +kernel)), hw_in5⟩
theorem fl_X2_155 : FL RX2 155 5 5 := ⟨RX5, TX5, 19, rfl, by decide, List.mem_append_right _ (List.mem_of_getElem? (i := 120) (by decide +kernel)), hw_in5⟩
theorem fp_X2_155 : FP RX2 155 5 5 .int := ⟨RX5, TX5, 19, tyX5, rfl, by decide, List.mem_append_right _ (List.mem_of_getElem? (i := 120) (by decide +kernel)), hw_in5, tyX5_ok, nmX5, rfl, by decide +kernel⟩
theorem fl_X2_174 : FL RX2 174 4 1 := ⟨RX4, TX4, 4, rfl, by decide, List.mem_append_right _ (List.mem_of_getElem? (i := 89) (by decide +kernel)), hw_in4⟩
theorem fp_X2_174 : FP RX2 174 4 1 .int := ⟨RX4, TX4, 4, tyX4, rfl, by decide, List.mem_append_right _ (List.mem_of_getElem? (i := 89) (by decide +kernel)), hw_in4, tyX4_ok, nmX4, rfl, by decide +kernel⟩
theorem fl_X2_185 : FL RX2 185 5 2 := ⟨RX5, TX5, 19, rfl, by decide, List.mem_append_right _ (List.mem_of_getElem? (i := 111) (by decide +kernel)), hw_in5⟩
theorem fp_X2_185 : FP RX2 185 5 2 .int := ⟨RX5, TX5, 19, tyX5, rfl, by decide, List.mem_append_right _ (List.mem_of_getElem? (i := 111) (by decide +kernel)), hw_in5, tyX5_ok, nmX5, rfl, by decide +kernel⟩
theorem fl_X2_188 : FL RX2 188 5 6 := ⟨RX5, TX5, 19, rfl, by decide, List.mem_append_right _ (List.mem_of_getElem? (i := 123) (by decide +kernel)), hw_in5⟩
theorem fp_X2_188 : FP RX2 188 5 6 .int := ⟨RX5, TX5, 19, tyX5, rfl, by decide, List.mem_append_right _ (List.mem_of_getElem? (i := 123) (by decide +kernel)), hw_in5, tyX5_ok, nmX5, rfl, by decide +kernel⟩
theorem fl_X3_11 : FL RX3 11 3 2 := ⟨RX3, TX3, 5, rfl, by decide, List.mem_append_right _ (List.mem_of_getElem? (i := 243) (by decide +kernel)), hw_in3⟩
theorem fl_X3_15 : FL RX3 15 3 0 := ⟨RX3, TX3, 5, rfl, by decide, List.mem_append_right _ (List.mem_of_getElem? (i := 241) (by decide +kernel)), hw_in3⟩
theorem fl_X3_19 : FL RX3 19 3 1 := ⟨RX3, TX3, 5, rfl, by decide, List.mem_append_right _ (List.mem_of_getElem? (i := 242) (by decide +kernel)), hw_in3⟩
theorem fl_X3_34 : FL RX3 34 3 3 := ⟨RX3, TX3, 5, rfl, by decide, List.mem_append_right _ (List.mem_of_getElem? (i := 244) (by decide +kernel)), hw_in3⟩
theorem fp_X3_34 : FP RX3 34 3 3 .int := ⟨RX3, TX3, 5, tyX3, rfl, by decide, List.mem_append_right _ (List.mem_of_getElem? (i := 244) (by decide +kernel)), hw_in3, tyX3_ok, nmX3, rfl, by decide +kernel⟩
theorem fl_X3_38 : FL RX3 38 3 4 := ⟨RX3, TX3, 5, rfl, by decide, List.mem_append_right _ (List.mem_of_getElem? (i := 245) (by decide +kernel)), hw_in3⟩
theorem fp_X3_38 : FP RX3 38 3 4 .int := ⟨RX3, TX3, 5, tyX3, rfl, by decide, List.mem_append_right _ (List.mem_of_getElem? (i := 245) (by decide +kernel)), hw_in3, tyX3_ok, nmX3, rfl, by decide +kernel⟩
theorem fl_X3_56 : FL RX3 56 2 0 := ⟨RX2, TX2, 10, rfl, by decide, List.mem_append_right _ (List.mem_of_getElem? (i := 189) (by decide +kernel)), hw_in2⟩
theorem fp_X3_56 : FP RX3 56 2 0 .int := ⟨RX2, TX2, 10, tyX2, rfl, by decide, List.mem_append_right _ (List.mem_of_getElem? (i := 189) (by decide +kernel)), hw_in2, tyX2_ok, nmX2, rfl, by decide +kernel⟩
theorem fl_X3_97 : FL RX3 97 2 9 := ⟨RX2, TX2, 10, rfl, by decide, List.mem_append_right _ (List.mem_of_getElem? (i := 213) (by decide +kernel)), hw_in2⟩
theorem fl_X3_101 : FL RX3 101 5 15 := ⟨RX5, TX5, 19, rfl, by decide, List.mem_append_right _ (List.mem_of_getElem? (i := 142) (by decide +kernel)), hw_in5⟩
theorem fl_X3_107 : FL RX3 107 0 0 := ⟨RX0, TX0, 3, rfl, by decide, List.mem_append_right _ (List.mem_of_getElem? (i := 47) (by decide +kernel)), hw_in0⟩
theorem fp_X3_107 : FP RX3 107 0 0 .int := ⟨RX0, TX0, 3, tyX0, rfl, by decide, List.mem_append_right _ (List.mem_of_getElem? (i := 47) (by decide +kernel)), hw_in0, tyX0_ok, nmX0, rfl, by decide +kernel⟩
theorem fl_X3_116 : FL RX3 116 2 1 := ⟨RX2, TX2, 10, rfl, by decide, List.mem_append_right _ (List.mem_of_getElem? (i := 192) (by decide +kernel)), hw_in2⟩
theorem fp_X3_116 : FP RX3 116 2 1 .int := ⟨RX2, TX2, 10, tyX2, rfl, by decide, List.mem_append_right _ (List.mem_of_getElem? (i := 192) (by decide +kernel)), hw_in2, tyX2_ok, nmX2, rfl, by decide +kernel⟩
theorem fl_X3_119 : FL RX3 119 2 2 := ⟨RX2, TX2, 10, rfl, by decide, List.mem_append_right _ (List.mem_of_getElem? (i := 195) (by decide +kernel)), hw_in2⟩
theorem fp_X3_119 : FP RX3 119 2 2 .int := ⟨RX2, TX2, 10, tyX2, rfl, by decide, List.mem_append_right _ (List.mem_of_getElem? (i := 195) (by decide +kernel)), hw_in2, tyX2_ok, nmX2, rfl, by decide +kernel⟩
theorem fl_X3_122 : FL RX3 122 2 3 := ⟨RX2, TX2, 10, rfl, by decide, List.mem_append_right _ (List.mem_of_getElem? (i := 198) (by decide +kernel)), hw_in2⟩
theorem fp_X3_122 : FP RX3 122 2 3 .int := ⟨RX2, TX2, 10, tyX2, rfl, by decide, List.mem_append_right _ (List.mem_of_getElem? (i := 198) (by decide +kernel)), hw_in2, tyX2_ok, nmX2, rfl, by decide +kernel⟩
theorem fl_X3_125 : FL RX3 125 2 4 := ⟨RX2, TX2, 10, rfl, by decide, List.mem_append_right _ (List.mem_of_getElem? (i := 201) (by decide +kernel)), hw_in2⟩
theorem fp_X3_125 : FP RX3 125 2 4 .int := ⟨RX2, TX2, 10, tyX2, rfl, by decide, List.mem_append_right _ (List.mem_of_getElem? (i := 201) (by decide +kernel)), hw_in2, tyX2_ok, nmX2, rfl, by decide +kernel⟩
theorem fl_X3_128 : FL RX3 128 2 5 := ⟨RX2, TX2, 10, rfl, by decide, List.mem_append_right _ (List.mem_of_getElem? (i := 205) (by decide +kernel)), hw_in2⟩
theorem fp_X3_128 : FP RX3 128 2 5 .int := ⟨RX2, TX2, 10, tyX2, rfl, by decide, List.mem_append_right _ (List.mem_of_getElem? (i := 205) (by decide +kernel)), hw_in2, tyX2_ok, nmX2, rfl, by decide +kernel⟩
theorem fl_X4_9 : FL RX4 9 4 0 := ⟨RX4, TX4, 4, rfl, by decide, List.mem_append_right _ (List.mem_of_getElem? (i := 84) (by decide +kernel)), hw_in4⟩
theorem fp_X4_9 : FP RX4 9 4 0 .int := ⟨RX4, TX4, 4, tyX4, rfl, by decide, List.mem_append_right _ (List.mem_of_getElem? (i := 84) (by decide +kernel)), hw_in4, tyX4_ok, nmX4, rfl, by decide +kernel⟩
theorem fl_X4_15 : FL RX4 15 4 1 := ⟨RX4, TX4, 4, rfl, by decide, List.mem_append_right _ (List.mem_of_getElem? (i := 87) (by decide +kernel)), hw_in4⟩
theorem fp_X4_15 : FP RX4 15 4 1 .int := ⟨RX4, TX4, 4, tyX4, rfl, by decide, List.mem_append_right _ (List.mem_of_getElem? (i := 87) (by decide +kernel)), hw_in4, tyX4_ok, nmX4, rfl, by decide +kernel⟩
theorem fl_X4_18 : FL RX4 18 4 2 := ⟨RX4, TX4, 4, rfl, by decide, List.mem_append_right _ (List.mem_of_getElem? (i := 90) (by decide +kernel)), hw_in4⟩
theorem fp_X4_18 : FP RX4 18 4 2 .int := ⟨RX4, TX4, 4, tyX4, rfl, by decide, List.mem_append_right _ (List.mem_of_getElem? (i := 90) (by decide +kernel)), hw_in4, tyX4_ok, nmX4, rfl, by decide +kernel⟩
theorem fl_X4_21 : FL RX4 21 4 3 := ⟨RX4, TX4, 4, rfl, by decide, List.mem_append_right _ (List.mem_of_getElem? (i := 92) (by decide +kernel)), hw_in4⟩
theorem fp_X4_21 : FP RX4 21 4 3 .int := ⟨RX4, TX4, 4, tyX4, rfl, by decide, List.mem_append_right _ (List.mem_of_getElem? (i := 92) (by decide +kernel)), hw_in4, tyX4_ok, nmX4, rfl, by decide +kernel⟩
theorem fl_X5_12 : FL RX5 12 5 15 := ⟨RX5, TX5, 19, rfl, by decide, List.mem_append_right _ (List.mem_of_getElem? (i := 139) (by decide +kernel)), hw_in5⟩
theorem fl_X5_21 : FL RX5 21 5 16 := ⟨RX5, TX5, 19, rfl, by decide, List.mem_append_right _ (List.mem_of_getElem? (i := 143) (by decide +kernel)), hw_in5⟩
theorem fl_X5_28 : FL RX5 28 5 17 := ⟨RX5, TX5, 19, rfl, by decide, List.mem_append_right _ (List.mem_of_getElem? (i := 145) (by decide +kernel)), hw_in5⟩
theorem fl_X5_32 : FL RX5 32 5 18 := ⟨RX5, TX5, 19, rfl, by decide, List.mem_append_right _ (List.mem_of_getElem? (i := 147) (by decide +kernel)), hw_in5⟩
theorem fl_X5_35 : FL RX5 35 5 0 := ⟨RX5, TX5, 19, rfl, by decide, List.mem_append_right _ (List.mem_of_getElem? (i := 103) (by decide +kernel)), hw_in5⟩
theorem fp_X5_35 : FP RX5 35 5 0 .int := ⟨RX5, TX5, 19, tyX5, rfl, by decide, List.mem_append_right _ (List.mem_of_getElem? (i := 103) (by decide +kernel)), hw_in5, tyX5_ok, nmX5, rfl, by decide +kernel⟩
theorem fl_X5_39 : FL RX5 39 5 1 := ⟨RX5, TX5, 19, rfl, by decide, List.mem_append_right _ (List.mem_of_getElem? (i := 106) (by decide +kernel)), hw_in5⟩
theorem fp_X5_39 : FP RX5 39 5 1 .int := ⟨RX5, TX5, 19, tyX5, rfl, by decide, List.mem_append_right _ (List.mem_of_getElem? (i := 106) (by decide +kernel)), hw_in5, tyX5_ok, nmX5, rfl, by decide +kernel⟩
theorem fl_X5_42 : FL RX5 42 5 2 := ⟨RX5, TX5, 19, rfl, by decide, List.mem_append_right _ (List.mem_of_getElem? (i := 109) (by decide +kernel)), hw_in5⟩
theorem fp_X5_42 : FP RX5 42 5 2 .int := ⟨RX5, TX5, 19, tyX5, rfl, by decide, List.mem_append_right _ (List.mem_of_getElem? (i := 109) (by decide +kernel)), hw_in5, tyX5_ok, nmX5, rfl, by decide +kernel⟩
theorem fl_X5_45 : FL RX5 45 5 3 := ⟨RX5, TX5, 19, rfl, by decide, List.mem_append_right _ (List.mem_of_getElem? (i := 112) (by decide +kernel)), hw_in5⟩
theorem fp_X5_45 : FP RX5 45 5 3 .int := ⟨RX5, TX5, 19, tyX5, rfl, by decide, List.mem_append_right _ (List.mem_of_getElem? (i := 112) (by decide +kernel)), hw_in5, tyX5_ok, nmX5, rfl, by decide +kernel⟩
theorem fl_X5_48 : FL RX5 48 5 4 := ⟨RX5, TX5, 19, rfl, by decide, List.mem_append_right _ (List.mem_of_getElem? (i := 115) (by decide +kernel)), hw_in5⟩
theorem fp_X5_48 : FP RX5 48 5 4 .int := ⟨RX5, TX5, 19, tyX5, rfl, by decide, List.mem_append_right _ (List.mem_of_getElem? (i := 115) (by decide +kernel)), hw_in5, tyX5_ok, nmX5, rfl, by decide +kernel⟩
theorem fl_X5_51 : FL RX5 51 5 5 := ⟨RX5, TX5, 19, rfl, by decide, List.mem_append_right _ (List.mem_of_getElem? (i := 118) (by decide +kernel)), hw_in5⟩
theorem fp_X5_51 : FP RX5 51 5 5 .int := ⟨RX5, TX5, 19, tyX5, rfl, by decide, List.mem_append_right _ (List.mem_of_getElem? (i := 118) (by decide +kernel)), hw_in5, tyX5_ok, nmX5, rfl, by decide +kernel⟩
theorem fl_X5_54 : FL RX5 54 5 6 := ⟨RX5, TX5, 19, rfl, by decide, List.mem_append_right _ (List.mem_of_getElem? (i := 121) (by decide +kernel)), hw_in5⟩
theorem fp_X5_54 : FP RX5 54 5 6 .int := ⟨RX5, TX5, 19, tyX5, rfl, by decide, List.mem_append_right _ (List.mem_of_getElem? (i := 121) (by decide +kernel)), hw_in5, tyX5_ok, nmX5, rfl, by decide +kernel⟩
theorem fl_X5_57 : FL RX5 57 5 7 := ⟨RX5, TX5, 19, rfl, by decide, List.mem_append_right _ (List.mem_of_getElem? (i := 124) (by decide +kernel)), hw_in5⟩
theorem fp_X5_57 : FP RX5 57 5 7 .int := ⟨RX5, TX5, 19, tyX5, rfl, by decide, List.mem_append_right _ (List.mem_of_getElem? (i := 124) (by decide +kernel)), hw_in5, tyX5_ok, nmX5, rfl, by decide +kernel⟩
theorem fl_X5_60 : FL RX5 60 5 8 := ⟨RX5, TX5, 19, rfl, by decide, List.mem_append_right _ (List.mem_of_getElem? (i := 126) (by decide +kernel)), hw_in5⟩
theorem fp_X5_60 : FP RX5 60 5 8 .int := ⟨RX5, TX5, 19, tyX5, rfl, by decide, List.mem_append_right _ (List.mem_of_getElem? (i := 126) (by decide +kernel)), hw_in5, tyX5_ok, nmX5, rfl, by decide +kernel⟩
theorem fl_X5_63 : FL RX5 63 5 9 := ⟨RX5, TX5, 19, rfl, by decide, List.mem_append_right _ (List.mem_of_getElem? (i := 129) (by decide +kernel)), hw_in5⟩
theorem fp_X5_63 : FP RX5 63 5 9 .int := ⟨RX5, TX5, 19, tyX5, rfl, by decide, List.mem_append_right _ (List.mem_of_getElem? (i := 129) (by decide +kernel)), hw_in5, tyX5_ok, nmX5, rfl, by decide +kernel⟩
theorem fl_X5_66 : FL RX5 66 5 10 := ⟨RX5, TX5, 19, rfl, by decide, List.mem_append_right _ (List.mem_of_getElem? (i := 132) (by decide +kernel)), hw_in5⟩
theorem fp_X5_66 : FP RX5 66 5 10 .boolean := ⟨RX5, TX5, 19, tyX5, rfl, by decide, List.mem_append_right _ (List.mem_of_getElem? (i := 132) (by decide +kernel)), hw_in5, tyX5_ok, nmX5, rfl, by decide +kernel⟩
theorem fl_X5_70 : FL RX5 70 5 11 := ⟨RX5, TX5, 19, rfl, by decide, List.mem_append_right _ (List.mem_of_getElem? (i := 134) (by decide +kernel)), hw_in5⟩
theorem fp_X5_70 : FP RX5 70 5 11 .int := ⟨RX5, TX5, 19, tyX5, rfl, by decide, List.mem_append_right _ (List.mem_of_getElem? (i := 134) (by decide +kernel)), hw_in5, tyX5_ok, nmX5, rfl, by decide +kernel⟩
theorem fl_X5_73 : FL RX5 73 5 12 := ⟨RX5, TX5, 19, rfl, by decide, List.mem_append_right _ (List.mem_of_getElem? (i := 136) (by decide +kernel)), hw_in5⟩
theorem fp_X5_73 : FP RX5 73 5 12 .int := ⟨RX5, TX5, 19, tyX5, rfl, by decide, List.mem_append_right _ (List.mem_of_getElem? (i := 136) (by decide +kernel)), hw_in5, tyX5_ok, nmX5, rfl, by decide +kernel⟩
theorem fl_X5_76 : FL RX5 76 5 13 := ⟨RX5, TX5, 19, rfl, by decide, List.mem_append_right _ (List.mem_of_getElem? (i := 137) (by decide +kernel)), hw_in5⟩
theorem fp_X5_76 : FP RX5 76 5 13 .int := ⟨RX5, TX5, 19, tyX5, rfl, by decide, List.mem_append_right _ (List.mem_of_getElem? (i := 137) (by decide +kernel)), hw_in5, tyX5_ok, nmX5, rfl, by decide +kernel⟩
theorem fl_X5_79 : FL RX5 79 5 14 := ⟨RX5, TX5, 19, rfl, by decide, List.mem_append_right _ (List.mem_of_getElem? (i := 138) (by decide +kernel)), hw_in5⟩
theorem fp_X5_79 : FP RX5 79 5 14 .int := ⟨RX5, TX5, 19, tyX5, rfl, by decide, List.mem_append_right _ (List.mem_of_getElem? (i := 138) (by decide +kernel)), hw_in5, tyX5_ok, nmX5, rfl, by decide +kernel⟩
theorem fl_X5_82 : FL RX5 82 0 0 := ⟨RX0, TX0, 3, rfl, by decide, List.mem_append_right _ (List.mem_of_getElem? (i := 44) (by decide +kernel)), hw_in0⟩
theorem fp_X5_82 : FP RX5 82 0 0 .int := ⟨RX0, TX0, 3, tyX0, rfl, by decide, List.mem_append_right _ (List.mem_of_getElem? (i := 44) (by decide +kernel)), hw_in0, tyX0_ok, nmX0, rfl, by decide +kernel⟩
theorem fl_X5_85 : FL RX5 85 1 0 := ⟨RX1, TX1, 2, rfl, by decide, List.mem_append_right _ (List.mem_of_getElem? (i := 71) (by decide +kernel)), hw_in1⟩
theorem fp_X5_85 : FP RX5 85 1 0 .int := ⟨RX1, TX1, 2, tyX1, rfl, by decide, List.mem_append_right _ (List.mem_of_getElem? (i := 71) (by decide +kernel)), hw_in1, tyX1_ok, nmX1, rfl, by decide +kernel⟩
theorem fl_X5_101 : FL RX5 101 0 1 := ⟨RX0, TX0, 3, rfl, by decide, List.mem_append_right _ (List.mem_of_getElem? (i := 49) (by decide +kernel)), hw_in0⟩
theorem fl_X5_105 : FL RX5 105 0 2 := ⟨RX0, TX0, 3, rfl, by decide, List.mem_append_right _ (List.mem_of_getElem? (i := 52) (by decide +kernel)), hw_in0⟩
theorem fl_X5_112 : FL RX5 112 4 0 := ⟨RX4, TX4, 4, rfl, by decide, List.mem_append_right _ (List.mem_of_getElem? (i := 85) (by decide +kernel)), hw_in4⟩
theorem fp_X5_112 : FP RX5 112 4 0 .int := ⟨RX4, TX4, 4, tyX4, rfl, by decide, List.mem_append_right _ (List.mem_of_getElem? (i := 85) (by decide +kernel)), hw_in4, tyX4_ok, nmX4, rfl, by decide +kernel⟩
theorem fl_X5_115 : FL RX5 115 4 1 := ⟨RX4, TX4, 4, rfl, by decide, List.mem_append_right _ (List.mem_of_getElem? (i := 88) (by decide +kernel)), hw_in4⟩
theorem fp_X5_115 : FP RX5 115 4 1 .int := ⟨RX4, TX4, 4, tyX4, rfl, by decide, List.mem_append_right _ (List.mem_of_getElem? (i := 88) (by decide +kernel)), hw_in4, tyX4_ok, nmX4, rfl, by decide +kernel⟩
theorem fl_X5_120 : FL RX5 120 4 2 := ⟨RX4, TX4, 4, rfl, by decide, List.mem_append_right _ (List.mem_of_getElem? (i := 91) (by decide +kernel)), hw_in4⟩
theorem fp_X5_120 : FP RX5 120 4 2 .int := ⟨RX4, TX4, 4, tyX4, rfl, by decide, List.mem_append_right _ (List.mem_of_getElem? (i := 91) (by decide +kernel)), hw_in4, tyX4_ok, nmX4, rfl, by decide +kernel⟩
theorem fl_X5_122 : FL RX5 122 4 3 := ⟨RX4, TX4, 4, rfl, by decide, List.mem_append_right _ (List.mem_of_getElem? (i := 93) (by decide +kernel)), hw_in4⟩
theorem fp_X5_122 : FP RX5 122 4 3 .int := ⟨RX4, TX4, 4, tyX4, rfl, by decide, List.mem_append_right _ (List.mem_of_getElem? (i := 93) (by decide +kernel)), hw_in4, tyX4_ok, nmX4, rfl, by decide +kernel⟩
theorem fl_X6_9 : FL RX6 9 6 0 := ⟨RX6, TX6, 8, rfl, by decide, List.mem_append_right _ (List.mem_of_getElem? (i := 438) (by decide +kernel)), hw_in6⟩
theorem fl_X6_16 : FL RX6 16 6 2 := ⟨RX6, TX6, 8, rfl, by decide, List.mem_append_right _ (List.mem_of_getElem? (i := 440) (by decide +kernel)), hw_in6⟩
theorem fl_X6_20 : FL RX6 20 6 3 := ⟨RX6, TX6, 8, rfl, by decide, List.mem_append_right _ (List.mem_of_getElem? (i := 441) (by decide +kernel)), hw_in6⟩
theorem fl_X6_28 : FL RX6 28 6 4 := ⟨RX6, TX6, 8, rfl, by decide, List.mem_append_right _ (List.mem_of_getElem? (i := 442) (by decide +kernel)), hw_in6⟩
theorem fl_X6_32 : FL RX6 32 6 5 := ⟨RX6, TX6, 8, rfl, by decide, List.mem_append_right _ (List.mem_of_getElem? (i := 443) (by decide +kernel)), hw_in6⟩
theorem fl_X6_48 : FL RX6 48 6 1 := ⟨RX6, TX6, 8, rfl, by decide, List.mem_append_right _ (List.mem_of_getElem? (i := 439) (by decide +kernel)), hw_in6⟩
theorem fp_X6_48 : FP RX6 48 6 1 .int := ⟨RX6, TX6, 8, tyX6, rfl, by decide, List.mem_append_right _ (List.mem_of_getElem? (i := 439) (by decide +kernel)), hw_in6, tyX6_ok, nmX6, rfl, by decide +kernel⟩
theorem fl_X6_60 : FL RX6 60 2 0 := ⟨RX2, TX2, 10, rfl, by decide, List.mem_append_right _ (List.mem_of_getElem? (i := 190) (by decide +kernel)), hw_in2⟩
theorem fp_X6_60 : FP RX6 60 2 0 .int := ⟨RX2, TX2, 10, tyX2, rfl, by decide, List.mem_append_right _ (List.mem_of_getElem? (i := 190) (by decide +kernel)), hw_in2, tyX2_ok, nmX2, rfl, by decide +kernel⟩
theorem fl_X6_70 : FL RX6 70 2 9 := ⟨RX2, TX2, 10, rfl, by decide, List.mem_append_right _ (List.mem_of_getElem? (i := 212) (by decide +kernel)), hw_in2⟩
theorem fl_X6_74 : FL RX6 74 5 15 := ⟨RX5, TX5, 19, rfl, by decide, List.mem_append_right _ (List.mem_of_getElem? (i := 140) (by decide +kernel)), hw_in5⟩
theorem fl_X6_80 : FL RX6 80 0 0 := ⟨RX0, TX0, 3, rfl, by decide, List.mem_append_right _ (List.mem_of_getElem? (i := 45) (by decide +kernel)), hw_in0⟩
theorem fp_X6_80 : FP RX6 80 0 0 .int := ⟨RX0, TX0, 3, tyX0, rfl, by decide, List.mem_append_right _ (List.mem_of_getElem? (i := 45) (by decide +kernel)), hw_in0, tyX0_ok, nmX0, rfl, by decide +kernel⟩
theorem fl_X6_107 : FL RX6 107 2 5 := ⟨RX2, TX2, 10, rfl, by decide, List.mem_append_right _ (List.mem_of_getElem? (i := 204) (by decide +kernel)), hw_in2⟩
theorem fp_X6_107 : FP RX6 107 2 5 .int := ⟨RX2, TX2, 10, tyX2, rfl, by decide, List.mem_append_right _ (List.mem_of_getElem? (i := 204) (by decide +kernel)), hw_in2, tyX2_ok, nmX2, rfl, by decide +kernel⟩
theorem fl_X6_110 : FL RX6 110 2 6 := ⟨RX2, TX2, 10, rfl, by decide, List.mem_append_right _ (List.mem_of_getElem? (i := 207) (by decide +kernel)), hw_in2⟩
theorem fp_X6_110 : FP RX6 110 2 6 .int := ⟨RX2, TX2, 10, tyX2, rfl, by decide, List.mem_append_right _ (List.mem_of_getElem? (i := 207) (by decide +kernel)), hw_in2, tyX2_ok, nmX2, rfl, by decide +kernel⟩
theorem fl_X6_119 : FL RX6 119 6 6 := ⟨RX6, TX6, 8, rfl, by decide, List.mem_append_right _ (List.mem_of_getElem? (i := 444) (by decide +kernel)), hw_in6⟩
theorem fp_X6_119 : FP RX6 119 6 6 .int := ⟨RX6, TX6, 8, tyX6, rfl, by decide, List.mem_append_right _ (List.mem_of_getElem? (i := 444) (by decide +kernel)), hw_in6, tyX6_ok, nmX6, rfl, by decide +kernel⟩
theorem fl_X6_122 : FL RX6 122 6 7 := ⟨RX6, TX6, 8, rfl, by decide, List.mem_append_right _ (List.mem_of_getElem? (i := 445) (by decide +kernel)), hw_in6⟩
theorem fp_X6_122 : FP RX6 122 6 7 .int := ⟨RX6, TX6, 8, tyX6, rfl, by decide, List.mem_append_right _ (List.mem_of_getElem? (i := 445) (by decide +kernel)), hw_in6, tyX6_ok, nmX6, rfl, by decide +kernel⟩
theorem fl_X6_132 : FL RX6 132 5 1 := ⟨RX5, TX5, 19, rfl, by decide, List.mem_append_right _ (List.mem_of_getElem? (i := 108) (by decide +kernel)), hw_in5⟩
theorem fp_X6_132 : FP RX6 132 5 1 .int := ⟨RX5, TX5, 19, tyX5, rfl, by decide, List.mem_append_right _ (List.mem_of_getElem? (i := 108) (by decide +kernel)), hw_in5, tyX5_ok, nmX5, rfl, by decide +kernel⟩
theorem fl_X6_135 : FL RX6 135 5 2 := ⟨RX5, TX5, 19, rfl, by decide, List.mem_append_right _ (List.mem_of_getElem? (i := 110) (by decide +kernel)), hw_in5⟩
theorem fp_X6_135 : FP RX6 135 5 2 .int := ⟨RX5, TX5, 19, tyX5, rfl, by decide, List.mem_append_right _ (List.mem_of_getElem? (i := 110) (by decide +kernel)), hw_in5, tyX5_ok, nmX5, rfl, by decide +kernel⟩
theorem fl_X6_138 : FL RX6 138 5 3 := ⟨RX5, TX5, 19, rfl, by decide, List.mem_append_right _ (List.mem_of_getElem? (i := 114) (by decide +kernel)), hw_in5⟩
theorem fp_X6_138 : FP RX6 138 5 3 .int := ⟨RX5, TX5, 19, tyX5, rfl, by decide, List.mem_append_right _ (List.mem_of_getElem? (i := 114) (by decide +kernel)), hw_in5, tyX5_ok, nmX5, rfl, by decide +kernel⟩
theorem fl_X6_141 : FL RX6 141 5 4 := ⟨RX5, TX5, 19, rfl, by decide, List.mem_append_right _ (List.mem_of_getElem? (i := 116) (by decide +kernel)), hw_in5⟩
theorem fp_X6_141 : FP RX6 141 5 4 .int := ⟨RX5, TX5, 19, tyX5, rfl, by decide, List.mem_append_right _ (List.mem_of_getElem? (i := 116) (by decide +kernel)), hw_in5, tyX5_ok, nmX5, rfl, by decide +kernel⟩
theorem fl_X6_144 : FL RX6 144 5 5 := ⟨RX5, TX5, 19, rfl, by decide, List.mem_append_right _ (List.mem_of_getElem? (i := 119) (by decide +kernel)), hw_in5⟩
theorem fp_X6_144 : FP RX6 144 5 5 .int := ⟨RX5, TX5, 19, tyX5, rfl, by decide, List.mem_append_right _ (List.mem_of_getElem? (i := 119) (by decide +kernel)), hw_in5, tyX5_ok, nmX5, rfl, by decide +kernel⟩
theorem fl_X6_147 : FL RX6 147 5 6 := ⟨RX5, TX5, 19, rfl, by decide, List.mem_append_right _ (List.mem_of_getElem? (i := 122) (by decide +kernel)), hw_in5⟩
theorem fp_X6_147 : FP RX6 147 5 6 .int := ⟨RX5, TX5, 19, tyX5, rfl, by decide, List.mem_append_right _ (List.mem_of_getElem? (i := 122) (by decide +kernel)), hw_in5, tyX5_ok, nmX5, rfl, by decide +kernel⟩
theorem fl_X6_150 : FL RX6 150 5 7 := ⟨RX5, TX5, 19, rfl, by decide, List.mem_append_right _ (List.mem_of_getElem? (i := 125) (by decide +kernel)), hw_in5⟩
theorem fp_X6_150 : FP RX6 150 5 7 .int := ⟨RX5, TX5, 19, tyX5, rfl, by decide, List.mem_append_right _ (List.mem_of_getElem? (i := 125) (by decide +kernel)), hw_in5, tyX5_ok, nmX5, rfl, by decide +kernel⟩
theorem fl_X6_153 : FL RX6 153 5 8 := ⟨RX5, TX5, 19, rfl, by decide, List.mem_append_right _ (List.mem_of_getElem? (i := 128) (by decide +kernel)), hw_in5⟩
theorem fp_X6_153 : FP RX6 153 5 8 .int := ⟨RX5, TX5, 19, tyX5, rfl, by decide, List.mem_append_right _ (List.mem_of_getElem? (i := 128) (by decide +kernel)), hw_in5, tyX5_ok, nmX5, rfl, by decide +kernel⟩
theorem fl_X6_160 : FL RX6 160 5 0 := ⟨RX5, TX5, 19, rfl, by decide, List.mem_append_right _ (List.mem_of_getElem? (i := 105) (by decide +kernel)), hw_in5⟩
theorem fp_X6_160 : FP RX6 160 5 0 .int := ⟨RX5, TX5, 19, tyX5, rfl, by decide, List.mem_append_right _ (List.mem_of_getElem? (i := 105) (by decide +kernel)), hw_in5, tyX5_ok, nmX5, rfl, by decide +kernel⟩
theorem fl_X6_162 : FL RX6 162 5 9 := ⟨RX5, TX5, 19, rfl, by decide, List.mem_append_right _ (List.mem_of_getElem? (i := 130) (by decide +kernel)), hw_in5⟩
theorem fp_X6_162 : FP RX6 162 5 9 .int := ⟨RX5, TX5, 19, tyX5, rfl, by decide, List.mem_append_right _ (List.mem_of_getElem? (i := 130) (by decide +kernel)), hw_in5, tyX5_ok, nmX5, rfl, by decide +kernel⟩
theorem fl_X6_165 : FL RX6 165 0 1 := ⟨RX0, TX0, 3, rfl, by decide, List.mem_append_right _ (List.mem_of_getElem? (i := 50) (by decide +kernel)), hw_in0⟩
theorem fl_X6_169 : FL RX6 169 0 2 := ⟨RX0, TX0, 3, rfl, by decide, List.mem_append_right _ (List.mem_of_getElem? (i := 53) (by decide +kernel)), hw_in0⟩
theorem fl_X6_174 : FL RX6 174 5 11 := ⟨RX5, TX5, 19, rfl, by decide, List.mem_append_right _ (List.mem_of_getElem? (i := 135) (by decide +kernel)), hw_in5⟩
theorem fp_X6_174 : FP RX6 174 5 11 .int := ⟨RX5, TX5, 19, tyX5, rfl, by decide, List.mem_append_right _ (List.mem_of_getElem? (i := 135) (by decide +kernel)), hw_in5, tyX5_ok, nmX5, rfl, by decide +kernel⟩
theorem fl_X6_177 : FL RX6 177 5 16 := ⟨RX5, TX5, 19, rfl, by decide, List.mem_append_right _ (List.mem_of_getElem? (i := 144) (by decide +kernel)), hw_in5⟩
theorem fl_X6_194 : FL RX6 194 2 8 := ⟨RX2, TX2, 10, rfl, by decide, List.mem_append_right _ (List.mem_of_getElem? (i := 210) (by decide +kernel)), hw_in2⟩
theorem fl_X6_203 : FL RX6 203 2 1 := ⟨RX2, TX2, 10, rfl, by decide, List.mem_append_right _ (List.mem_of_getElem? (i := 193) (by decide +kernel)), hw_in2⟩
theorem fp_X6_203 : FP RX6 203 2 1 .int := ⟨RX2, TX2, 10, tyX2, rfl, by decide, List.mem_append_right _ (List.mem_of_getElem? (i := 193) (by decide +kernel)), hw_in2, tyX2_ok, nmX2, rfl, by decide +kernel⟩
theorem fl_X6_206 : FL RX6 206 2 2 := ⟨RX2, TX2, 10, rfl, by decide, List.mem_append_right _ (List.mem_of_getElem? (i := 196) (by decide +kernel)), hw_in2⟩
theorem fp_X6_206 : FP RX6 206 2 2 .int := ⟨RX2, TX2, 10, tyX2, rfl, by decide, List.mem_append_right _ (List.mem_of_getElem? (i := 196) (by decide +kernel)), hw_in2, tyX2_ok, nmX2, rfl, by decide +kernel⟩
theorem fl_X6_209 : FL RX6 209 2 3 := ⟨RX2, TX2, 10, rfl, by decide, List.mem_append_right _ (List.mem_of_getElem? (i := 199) (by decide +kernel)), hw_in2⟩
theorem fp_X6_209 : FP RX6 209 2 3 .int := ⟨RX2, TX2, 10, tyX2, rfl, by decide, List.mem_append_right _ (List.mem_of_getElem? (i := 199) (by decide +kernel)), hw_in2, tyX2_ok, nmX2, rfl, by decide +kernel⟩
theorem fl_X6_212 : FL RX6 212 2 4 := ⟨RX2, TX2, 10, rfl, by decide, List.mem_append_right _ (List.mem_of_getElem? (i := 202) (by decide +kernel)), hw_in2⟩
theorem fp_X6_212 : FP RX6 212 2 4 .int := ⟨RX2, TX2, 10, tyX2, rfl, by decide, List.mem_append_right _ (List.mem_of_getElem? (i := 202) (by decide +kernel)), hw_in2, tyX2_ok, nmX2, rfl, by decide +kernel⟩
theorem fl_X7_7 : FL RX7 7 7 1 := ⟨RX7, TX7, 18, rfl, by decide, List.mem_append_right _ (List.mem_of_getElem? (i := 725) (by decide +kernel)), hw_in7⟩
theorem fl_X7_13 : FL RX7 13 7 7 := ⟨RX7, TX7, 18, rfl, by decide, List.mem_append_right _ (List.mem_of_getElem? (i := 731) (by decide +kernel)), hw_in7⟩
theorem fl_X7_16 : FL RX7 16 7 8 := ⟨RX7, TX7, 18, rfl, by decide, List.mem_append_right _ (List.mem_of_getElem? (i := 732) (by decide +kernel)), hw_in7⟩
theorem fl_X7_19 : FL RX7 19 7 11 := ⟨RX7, TX7, 18, rfl, by decide, List.mem_append_right _ (List.mem_of_getElem? (i := 735) (by decide +kernel)), hw_in7⟩
theorem fl_X7_22 : FL RX7 22 7 14 := ⟨RX7, TX7, 18, rfl, by decide, List.mem_append_right _ (List.mem_of_getElem? (i := 738) (by decide +kernel)), hw_in7⟩
theorem fl_X7_25 : FL RX7 25 7 15 := ⟨RX7, TX7, 18, rfl, by decide, List.mem_append_right _ (List.mem_of_getElem? (i := 739) (by decide +kernel)), hw_in7⟩
theorem fl_X7_28 : FL RX7 28 7 16 := ⟨RX7, TX7, 18, rfl, by decide, List.mem_append_right _ (List.mem_of_getElem? (i := 740) (by decide +kernel)), hw_in7⟩
theorem fl_X7_31 : FL RX7 31 7 17 := ⟨RX7, TX7, 18, rfl, by decide, List.mem_append_right _ (List.mem_of_getElem? (i := 741) (by decide +kernel)), hw_in7⟩
theorem fl_X7_37 : FL RX7 37 7 10 := ⟨RX7, TX7, 18, rfl, by decide, List.mem_append_right _ (List.mem_of_getElem? (i := 734) (by decide +kernel)), hw_in7⟩
theorem fp_X7_37 : FP RX7 37 7 10 .int := ⟨RX7, TX7, 18, tyX7, rfl, by decide, List.mem_append_right _ (List.mem_of_getElem? (i := 734) (by decide +kernel)), hw_in7, tyX7_ok, nmX7, rfl, by decide +kernel⟩
theorem fl_X7_56 : FL RX7 56 7 2 := ⟨RX7, TX7, 18, rfl, by decide, List.mem_append_right _ (List.mem_of_getElem? (i := 726) (by decide +kernel)), hw_in7⟩
theorem fp_X7_56 : FP RX7 56 7 2 .int := ⟨RX7, TX7, 18, tyX7, rfl, by decide, List.mem_append_right _ (List.mem_of_getElem? (i := 726) (by decide +kernel)), hw_in7, tyX7_ok, nmX7, rfl, by decide +kernel⟩
theorem fl_X7_59 : FL RX7 59 7 3 := ⟨RX7, TX7, 18, rfl, by decide, List.mem_append_right _ (List.mem_of_getElem? (i := 727) (by decide +kernel)), hw_in7⟩
theorem fp_X7_59 : FP RX7 59 7 3 .int := ⟨RX7, TX7, 18, tyX7, rfl, by decide, List.mem_append_right _ (List.mem_of_getElem? (i := 727) (by decide +kernel)), hw_in7, tyX7_ok, nmX7, rfl, by decide +kernel⟩
theorem fl_X7_62 : FL RX7 62 7 4 := ⟨RX7, TX7, 18, rfl, by decide, List.mem_append_right _ (List.mem_of_getElem? (i := 728) (by decide +kernel)), hw_in7⟩
theorem fp_X7_62 : FP RX7 62 7 4 .int := ⟨RX7, TX7, 18, tyX7, rfl, by decide, List.mem_append_right _ (List.mem_of_getElem? (i := 728) (by decide +kernel)), hw_in7, tyX7_ok, nmX7, rfl, by decide +kernel⟩
theorem fl_X7_65 : FL RX7 65 7 5 := ⟨RX7, TX7, 18, rfl, by decide, List.mem_append_right _ (List.mem_of_getElem? (i := 729) (by decide +kernel)), hw_in7⟩
theorem fp_X7_65 : FP RX7 65 7 5 .int := ⟨RX7, TX7, 18, tyX7, rfl, by decide, List.mem_append_right _ (List.mem_of_getElem? (i := 729) (by decide +kernel)), hw_in7, tyX7_ok, nmX7, rfl, by decide +kernel⟩
theorem fl_X7_68 : FL RX7 68 7 6 := ⟨RX7, TX7, 18, rfl, by decide, List.mem_append_right _ (List.mem_of_getElem? (i := 730) (by decide +kernel)), hw_in7⟩
theorem fp_X7_68 : FP RX7 68 7 6 .int := ⟨RX7, TX7, 18, tyX7, rfl, by decide, List.mem_append_right _ (List.mem_of_getElem? (i := 730) (by decide +kernel)), hw_in7, tyX7_ok, nmX7, rfl, by decide +kernel⟩
theorem fl_X7_75 : FL RX7 75 7 9 := ⟨RX7, TX7, 18, rfl, by decide, List.mem_append_right _ (List.mem_of_getElem? (i := 733) (by decide +kernel)), hw_in7⟩
theorem fp_X7_75 : FP RX7 75 7 9 .int := ⟨RX7, TX7, 18, tyX7, rfl, by decide, List.mem_append_right _ (List.mem_of_getElem? (i := 733) (by decide +kernel)), hw_in7, tyX7_ok, nmX7, rfl, by decide +kernel⟩
theorem fl_X7_81 : FL RX7 81 7 0 := ⟨RX7, TX7, 18, rfl, by decide, List.mem_append_right _ (List.mem_of_getElem? (i := 724) (by decide +kernel)), hw_in7⟩
theorem fp_X7_81 : FP RX7 81 7 0 .int := ⟨RX7, TX7, 18, tyX7, rfl, by decide, List.mem_append_right _ (List.mem_of_getElem? (i := 724) (by decide +kernel)), hw_in7, tyX7_ok, nmX7, rfl, by decide +kernel⟩
theorem fl_X7_84 : FL RX7 84 7 12 := ⟨RX7, TX7, 18, rfl, by decide, List.mem_append_right _ (List.mem_of_getElem? (i := 736) (by decide +kernel)), hw_in7⟩
theorem fp_X7_84 : FP RX7 84 7 12 .int := ⟨RX7, TX7, 18, tyX7, rfl, by decide, List.mem_append_right _ (List.mem_of_getElem? (i := 736) (by decide +kernel)), hw_in7, tyX7_ok, nmX7, rfl, by decide +kernel⟩
theorem fl_X7_87 : FL RX7 87 7 13 := ⟨RX7, TX7, 18, rfl, by decide, List.mem_append_right _ (List.mem_of_getElem? (i := 737) (by decide +kernel)), hw_in7⟩
theorem fp_X7_87 : FP RX7 87 7 13 .int := ⟨RX7, TX7, 18, tyX7, rfl, by decide, List.mem_append_right _ (List.mem_of_getElem? (i := 737) (by decide +kernel)), hw_in7, tyX7_ok, nmX7, rfl, by decide +kernel⟩
abbrev mJ6_bitCount_0f7a4 : Mt := (yJ6_bitCount_0f7a4, cJ6_bitCount_0f7a4, 1, some .int, 0, 0)
abbrev mX0_add : Mt := (yX0_add, cX0_add, 3, none, 0, 0)
abbrev mX0_copyFrom : Mt := (yX0_copyFrom, cX0_copyFrom, 2, none, 1, 40)
abbrev mX0_hasOneTo : Mt := (yX0_hasOneTo, cX0_hasOneTo, 3, some .boolean, 0, 0)
abbrev mX0_init : Mt := (yX0_init, cX0_init, 1, none, 1, 40)
abbrev mX0_removeFirst : Mt := (yX0_removeFirst, cX0_removeFirst, 1, none, 1, 40)
abbrev mX1_add : Mt := (yX1_add, cX1_add, 6, none, 1, 40)
abbrev mX1_copyFrom : Mt := (yX1_copyFrom, cX1_copyFrom, 2, none, 1, 40)
abbrev mX1_init : Mt := (yX1_init, cX1_init, 1, none, 1, 40)
abbrev mX1_read : Mt := (yX1_read, cX1_read, 3, some .int, 0, 0)
abbrev mX2_clear : Mt := (yX2_clear, cX2_clear, 2, none, 3, 64)
abbrev mX2_copyFrom : Mt := (yX2_copyFrom, cX2_copyFrom, 3, none, 3, 82)
abbrev mX2_drawFirstWaits : Mt := (yX2_drawFirstWaits, cX2_drawFirstWaits, 2, none, 2, 46)
abbrev mX2_drawWait : Mt := (yX2_drawWait, cX2_drawWait, 3, none, 1, 24)
abbrev mX2_getFrom : Mt := (yX2_getFrom, cX2_getFrom, 4, some .boolean, 3, 89)
abbrev mX2_hears : Mt := (yX2_hears, cX2_hears, 3, some .boolean, 0, 0)
abbrev mX2_init : Mt := (yX2_init, cX2_init, 2, none, 3, 80)
abbrev mX2_isAsked : Mt := (yX2_isAsked, cX2_isAsked, 2, some .boolean, 0, 0)
abbrev mX2_join : Mt := (yX2_join, cX2_join, 4, none, 0, 0)
abbrev mX2_kindToSend : Mt := (yX2_kindToSend, cX2_kindToSend, 2, some .int, 1, 22)
abbrev mX2_listen : Mt := (yX2_listen, cX2_listen, 5, none, 4, 112)
abbrev mX2_lowestOf : Mt := (yX2_lowestOf, cX2_lowestOf, 3, some .int, 0, 0)
abbrev mX2_mayBegin : Mt := (yX2_mayBegin, cX2_mayBegin, 3, some .boolean, 0, 0)
abbrev mX2_nearness : Mt := (yX2_nearness, cX2_nearness, 3, some .int, 1, 22)
abbrev mX2_pairsOf : Mt := (yX2_pairsOf, cX2_pairsOf, 5, some .int, 2, 44)
abbrev mX2_passSlots : Mt := (yX2_passSlots, cX2_passSlots, 5, none, 5, 136)
abbrev mX2_sendAll : Mt := (yX2_sendAll, cX2_sendAll, 6, some .int, 3, 66)
abbrev mX2_tallySent : Mt := (yX2_tallySent, cX2_tallySent, 3, none, 0, 0)
abbrev mX2_totalOf : Mt := (yX2_totalOf, cX2_totalOf, 4, some .int, 1, 21)
abbrev mX3_applyHear : Mt := (yX3_applyHear, cX3_applyHear, 3, some .boolean, 1, 23)
abbrev mX3_applyItem : Mt := (yX3_applyItem, cX3_applyItem, 5, some .boolean, 2, 46)
abbrev mX3_applyLetter : Mt := (yX3_applyLetter, cX3_applyLetter, 5, some .boolean, 1, 22)
abbrev mX3_applySeed : Mt := (yX3_applySeed, cX3_applySeed, 2, some .boolean, 0, 0)
abbrev mX3_applyTries : Mt := (yX3_applyTries, cX3_applyTries, 3, some .boolean, 0, 0)
abbrev mX3_applyWindows : Mt := (yX3_applyWindows, cX3_applyWindows, 3, some .boolean, 0, 0)
abbrev mX3_arePair : Mt := (yX3_arePair, cX3_arePair, 3, some .boolean, 0, 0)
abbrev mX3_firstFault : Mt := (yX3_firstFault, cX3_firstFault, 4, some .int, 4, 92)
abbrev mX3_init : Mt := (yX3_init, cX3_init, 3, none, 1, 40)
abbrev mX3_numbersBehind : Mt := (yX3_numbersBehind, cX3_numbersBehind, 2, some .int, 0, 0)
abbrev mX3_readItem : Mt := (yX3_readItem, cX3_readItem, 3, some .boolean, 3, 70)
abbrev mX3_readNumber : Mt := (yX3_readNumber, cX3_readNumber, 4, some .boolean, 0, 0)
abbrev mX3_readNumbers : Mt := (yX3_readNumbers, cX3_readNumbers, 4, some .boolean, 1, 23)
abbrev mX3_readSign : Mt := (yX3_readSign, cX3_readSign, 2, some .boolean, 0, 0)
abbrev mX3_setStations : Mt := (yX3_setStations, cX3_setStations, 2, some .boolean, 0, 0)
abbrev mX4_clear : Mt := (yX4_clear, cX4_clear, 1, none, 1, 24)
abbrev mX4_copyFrom : Mt := (yX4_copyFrom, cX4_copyFrom, 2, none, 1, 24)
abbrev mX4_init : Mt := (yX4_init, cX4_init, 1, none, 1, 40)
abbrev mX4_put : Mt := (yX4_put, cX4_put, 5, none, 0, 0)
abbrev mX5_awaitAnswer : Mt := (yX5_awaitAnswer, cX5_awaitAnswer, 1, none, 0, 0)
abbrev mX5_clear : Mt := (yX5_clear, cX5_clear, 1, none, 2, 44)
abbrev mX5_closeLetter : Mt := (yX5_closeLetter, cX5_closeLetter, 2, none, 2, 60)
abbrev mX5_copyFrom : Mt := (yX5_copyFrom, cX5_copyFrom, 2, none, 2, 61)
abbrev mX5_failLetter : Mt := (yX5_failLetter, cX5_failLetter, 4, none, 3, 81)
abbrev mX5_init : Mt := (yX5_init, cX5_init, 1, none, 2, 60)
abbrev mX5_overhear : Mt := (yX5_overhear, cX5_overhear, 5, none, 2, 65)
abbrev mX5_send : Mt := (yX5_send, cX5_send, 2, none, 2, 45)
abbrev mX5_take : Mt := (yX5_take, cX5_take, 4, some .boolean, 2, 48)
abbrev mX5_takePart : Mt := (yX5_takePart, cX5_takePart, 5, none, 1, 24)
abbrev mX5_tallyOf : Mt := (yX5_tallyOf, cX5_tallyOf, 2, some .int, 0, 0)
abbrev mX6_ahead : Mt := (yX6_ahead, cX6_ahead, 3, some .int, 6, 160)
abbrev mX6_count : Mt := (yX6_count, cX6_count, 2, some .int, 3, 68)
abbrev mX6_draw : Mt := (yX6_draw, cX6_draw, 3, some .int, 1, 24)
abbrev mX6_drawnNumber : Mt := (yX6_drawnNumber, cX6_drawnNumber, 5, some .int, 0, 0)
abbrev mX6_draws : Mt := (yX6_draws, cX6_draws, 3, some .int, 5, 124)
abbrev mX6_fault : Mt := (yX6_fault, cX6_fault, 1, some .int, 5, 115)
abbrev mX6_hear : Mt := (yX6_hear, cX6_hear, 5, some .int, 5, 124)
abbrev mX6_init : Mt := (yX6_init, cX6_init, 2, none, 6, 154)
abbrev mX6_isPair : Mt := (yX6_isPair, cX6_isPair, 3, some .boolean, 1, 21)
abbrev mX6_isStation : Mt := (yX6_isStation, cX6_isStation, 2, some .boolean, 0, 0)
abbrev mX6_lay : Mt := (yX6_lay, cX6_lay, 1, some .int, 6, 135)
abbrev mX6_leastSentInTrial : Mt := (yX6_leastSentInTrial, cX6_leastSentInTrial, 3, some .int, 1, 24)
abbrev mX6_letter : Mt := (yX6_letter, cX6_letter, 5, some .int, 5, 124)
abbrev mX6_letterOf : Mt := (yX6_letterOf, cX6_letterOf, 5, some .int, 1, 21)
abbrev mX6_mostSentInTrial : Mt := (yX6_mostSentInTrial, cX6_mostSentInTrial, 3, some .int, 1, 24)
abbrev mX6_overheard : Mt := (yX6_overheard, cX6_overheard, 4, some .int, 1, 22)
abbrev mX6_pair : Mt := (yX6_pair, cX6_pair, 3, some .int, 2, 44)
abbrev mX6_remember : Mt := (yX6_remember, cX6_remember, 1, none, 4, 104)
abbrev mX6_sentInTrial : Mt := (yX6_sentInTrial, cX6_sentInTrial, 2, some .int, 0, 0)
abbrev mX6_slot : Mt := (yX6_slot, cX6_slot, 3, some .int, 6, 160)
abbrev mX6_soon : Mt := (yX6_soon, cX6_soon, 3, some .int, 6, 160)
abbrev mX6_station : Mt := (yX6_station, cX6_station, 4, some .int, 2, 43)
abbrev mX6_takeText : Mt := (yX6_takeText, cX6_takeText, 1, some .boolean, 5, 115)
abbrev mX6_took : Mt := (yX6_took, cX6_took, 5, some .int, 0, 0)
abbrev mX6_undo : Mt := (yX6_undo, cX6_undo, 1, some .int, 4, 104)
abbrev mX6_wipe : Mt := (yX6_wipe, cX6_wipe, 2, some .int, 0, 0)
abbrev mX6_write : Mt := (yX6_write, cX6_write, 2, some .int, 0, 0)
abbrev mX7_adds : Mt := (yX7_adds, cX7_adds, 7, none, 1, 21)
abbrev mX7_ahead : Mt := (yX7_ahead, cX7_ahead, 6, some .int, 8, 198)
abbrev mX7_all : Mt := (yX7_all, cX7_all, 5, some .int, 1, 21)
abbrev mX7_areTwo : Mt := (yX7_areTwo, cX7_areTwo, 3, some .boolean, 2, 43)
abbrev mX7_at : Mt := (yX7_at, cX7_at, 2, some .int, 0, 0)
abbrev mX7_bits : Mt := (yX7_bits, cX7_bits, 3, some .int, 0, 0)
abbrev mX7_clears : Mt := (yX7_clears, cX7_clears, 2, none, 0, 0)
abbrev mX7_comes : Mt := (yX7_comes, cX7_comes, 4, none, 2, 48)
abbrev mX7_copies : Mt := (yX7_copies, cX7_copies, 4, none, 0, 0)
abbrev mX7_count : Mt := (yX7_count, cX7_count, 2, some .int, 3, 67)
abbrev mX7_draw : Mt := (yX7_draw, cX7_draw, 3, some .int, 2, 43)
abbrev mX7_drawn : Mt := (yX7_drawn, cX7_drawn, 6, some .int, 0, 0)
abbrev mX7_draws : Mt := (yX7_draws, cX7_draws, 3, some .int, 1, 22)
abbrev mX7_fails : Mt := (yX7_fails, cX7_fails, 5, none, 4, 95)
abbrev mX7_fault : Mt := (yX7_fault, cX7_fault, 1, some .int, 6, 137)
abbrev mX7_gets : Mt := (yX7_gets, cX7_gets, 10, none, 6, 145)
abbrev mX7_goes : Mt := (yX7_goes, cX7_goes, 5, none, 7, 174)
abbrev mX7_has : Mt := (yX7_has, cX7_has, 2, some .boolean, 0, 0)
abbrev mX7_hasFor : Mt := (yX7_hasFor, cX7_hasFor, 5, some .boolean, 1, 21)
abbrev mX7_hear : Mt := (yX7_hear, cX7_hear, 4, some .int, 3, 67)
abbrev mX7_hears : Mt := (yX7_hears, cX7_hears, 4, none, 0, 0)
abbrev mX7_init : Mt := (yX7_init, cX7_init, 1, none, 4, 92)
abbrev mX7_isFree : Mt := (yX7_isFree, cX7_isFree, 4, some .boolean, 1, 21)
abbrev mX7_isIn : Mt := (yX7_isIn, cX7_isIn, 3, some .boolean, 0, 0)
abbrev mX7_isStation : Mt := (yX7_isStation, cX7_isStation, 2, some .boolean, 1, 22)
abbrev mX7_keeps : Mt := (yX7_keeps, cX7_keeps, 2, none, 0, 0)
abbrev mX7_lay : Mt := (yX7_lay, cX7_lay, 1, some .int, 6, 137)
abbrev mX7_letter : Mt := (yX7_letter, cX7_letter, 4, some .int, 3, 71)
abbrev mX7_letterAt : Mt := (yX7_letterAt, cX7_letterAt, 2, some .int, 0, 0)
abbrev mX7_letterOf : Mt := (yX7_letterOf, cX7_letterOf, 6, some .int, 2, 43)
abbrev mX7_mayBegin : Mt := (yX7_mayBegin, cX7_mayBegin, 6, some .boolean, 2, 44)
abbrev mX7_more : Mt := (yX7_more, cX7_more, 3, some .boolean, 2, 45)
abbrev mX7_number : Mt := (yX7_number, cX7_number, 4, some .boolean, 1, 22)
abbrev mX7_overheard : Mt := (yX7_overheard, cX7_overheard, 5, some .int, 2, 43)
abbrev mX7_overhears : Mt := (yX7_overhears, cX7_overhears, 8, none, 1, 21)
abbrev mX7_overs : Mt := (yX7_overs, cX7_overs, 5, none, 3, 71)
abbrev mX7_pair : Mt := (yX7_pair, cX7_pair, 3, some .int, 3, 65)
abbrev mX7_pairOf : Mt := (yX7_pairOf, cX7_pairOf, 3, some .int, 1, 21)
abbrev mX7_pairs : Mt := (yX7_pairs, cX7_pairs, 5, some .int, 2, 43)
abbrev mX7_reads : Mt := (yX7_reads, cX7_reads, 2, some .int, 5, 116)
abbrev mX7_readsItem : Mt := (yX7_readsItem, cX7_readsItem, 6, some .boolean, 4, 91)
abbrev mX7_readsLetter : Mt := (yX7_readsLetter, cX7_readsLetter, 5, some .boolean, 3, 67)
abbrev mX7_readsPair : Mt := (yX7_readsPair, cX7_readsPair, 4, some .boolean, 3, 67)
abbrev mX7_readsRules : Mt := (yX7_readsRules, cX7_readsRules, 5, some .boolean, 3, 67)
abbrev mX7_says : Mt := (yX7_says, cX7_says, 5, none, 3, 69)
abbrev mX7_sends : Mt := (yX7_sends, cX7_sends, 5, none, 3, 69)
abbrev mX7_sent : Mt := (yX7_sent, cX7_sent, 4, none, 4, 95)
abbrev mX7_slot : Mt := (yX7_slot, cX7_slot, 4, some .int, 8, 198)
abbrev mX7_soon : Mt := (yX7_soon, cX7_soon, 2, some .int, 8, 198)
abbrev mX7_station : Mt := (yX7_station, cX7_station, 4, some .int, 4, 93)
abbrev mX7_takes : Mt := (yX7_takes, cX7_takes, 2, none, 3, 71)
abbrev mX7_takesOwn : Mt := (yX7_takesOwn, cX7_takesOwn, 8, some .boolean, 5, 118)
abbrev mX7_took : Mt := (yX7_took, cX7_took, 5, some .int, 1, 22)
abbrev mX7_undo : Mt := (yX7_undo, cX7_undo, 2, some .int, 0, 0)
abbrev mX7_waits : Mt := (yX7_waits, cX7_waits, 4, none, 1, 25)
abbrev mX7_wipe : Mt := (yX7_wipe, cX7_wipe, 2, some .int, 0, 0)
abbrev mX7_write : Mt := (yX7_write, cX7_write, 2, some .int, 0, 0)
theorem ck_L_13 : CK RL 13 mX6_write 1 6 := ⟨⟨List.mem_append_right _ (List.mem_of_getElem? (i := 464) (by decide +kernel)), List.mem_append_right _ (List.mem_of_getElem? (i := 1) (by decide +kernel)), List.mem_append_right _ (List.mem_of_getElem? (i := 467) (by decide +kernel)), ⟨by decide +kernel, by decide +kernel⟩, by decide +kernel⟩, List.mem_append_right _ (List.mem_of_getElem? (i := 465) (by decide +kernel)), List.mem_append_right _ (List.mem_of_getElem? (i := 466) (by decide +kernel)), TX6, 8, rfl⟩
theorem ck_L_17 : CK RL 17 mX7_write 1 7 := ⟨⟨List.mem_append_right _ (List.mem_of_getElem? (i := 779) (by decide +kernel)), List.mem_append_right _ (List.mem_of_getElem? (i := 14) (by decide +kernel)), List.mem_append_right _ (List.mem_of_getElem? (i := 782) (by decide +kernel)), ⟨by decide +kernel, by decide +kernel⟩, by decide +kernel⟩, List.mem_append_right _ (List.mem_of_getElem? (i := 780) (by decide +kernel)), List.mem_append_right _ (List.mem_of_getElem? (i := 781) (by decide +kernel)), TX7, 18, rfl⟩
theorem ck_L_18 : CK RL 18 mX6_wipe 0 6 := ⟨⟨List.mem_append_right _ (List.mem_of_getElem? (i := 468) (by decide +kernel)), List.mem_append_right _ (List.mem_of_getElem? (i := 1) (by decide +kernel)), List.mem_append_right _ (List.mem_of_getElem? (i := 471) (by decide +kernel)), ⟨by decide +kernel, by decide +kernel⟩, by decide +kernel⟩, List.mem_append_right _ (List.mem_of_getElem? (i := 469) (by decide +kernel)), List.mem_append_right _ (List.mem_of_getElem? (i := 470) (by decide +kernel)), TX6, 8, rfl⟩
theorem ck_L_22 : CK RL 22 mX7_wipe 0 7 := ⟨⟨List.mem_append_right _ (List.mem_of_getElem? (i := 783) (by decide +kernel)), List.mem_append_right _ (List.mem_of_getElem? (i := 14) (by decide +kernel)), List.mem_append_right _ (List.mem_of_getElem? (i := 786) (by decide +kernel)), ⟨by decide +kernel, by decide +kernel⟩, by decide +kernel⟩, List.mem_append_right _ (List.mem_of_getElem? (i := 784) (by decide +kernel)), List.mem_append_right _ (List.mem_of_getElem? (i := 785) (by decide +kernel)), TX7, 18, rfl⟩
theorem ck_L_23 : CK RL 23 mX6_fault 0 6 := ⟨⟨List.mem_append_right _ (List.mem_of_getElem? (i := 472) (by decide +kernel)), List.mem_append_right _ (List.mem_of_getElem? (i := 1) (by decide +kernel)), List.mem_append_right _ (List.mem_of_getElem? (i := 475) (by decide +kernel)), ⟨by decide +kernel, by decide +kernel⟩, by decide +kernel⟩, List.mem_append_right _ (List.mem_of_getElem? (i := 473) (by decide +kernel)), List.mem_append_right _ (List.mem_of_getElem? (i := 474) (by decide +kernel)), TX6, 8, rfl⟩
theorem ck_L_26 : CK RL 26 mX7_fault 0 7 := ⟨⟨List.mem_append_right _ (List.mem_of_getElem? (i := 787) (by decide +kernel)), List.mem_append_right _ (List.mem_of_getElem? (i := 14) (by decide +kernel)), List.mem_append_right _ (List.mem_of_getElem? (i := 790) (by decide +kernel)), ⟨by decide +kernel, by decide +kernel⟩, by decide +kernel⟩, List.mem_append_right _ (List.mem_of_getElem? (i := 788) (by decide +kernel)), List.mem_append_right _ (List.mem_of_getElem? (i := 789) (by decide +kernel)), TX7, 18, rfl⟩
theorem ck_L_27 : CK RL 27 mX6_lay 0 6 := ⟨⟨List.mem_append_right _ (List.mem_of_getElem? (i := 476) (by decide +kernel)), List.mem_append_right _ (List.mem_of_getElem? (i := 1) (by decide +kernel)), List.mem_append_right _ (List.mem_of_getElem? (i := 479) (by decide +kernel)), ⟨by decide +kernel, by decide +kernel⟩, by decide +kernel⟩, List.mem_append_right _ (List.mem_of_getElem? (i := 477) (by decide +kernel)), List.mem_append_right _ (List.mem_of_getElem? (i := 478) (by decide +kernel)), TX6, 8, rfl⟩
theorem ck_L_30 : CK RL 30 mX7_lay 0 7 := ⟨⟨List.mem_append_right _ (List.mem_of_getElem? (i := 829) (by decide +kernel)), List.mem_append_right _ (List.mem_of_getElem? (i := 14) (by decide +kernel)), List.mem_append_right _ (List.mem_of_getElem? (i := 832) (by decide +kernel)), ⟨by decide +kernel, by decide +kernel⟩, by decide +kernel⟩, List.mem_append_right _ (List.mem_of_getElem? (i := 830) (by decide +kernel)), List.mem_append_right _ (List.mem_of_getElem? (i := 831) (by decide +kernel)), TX7, 18, rfl⟩
theorem ck_L_31 : CK RL 31 mX6_letter 3 6 := ⟨⟨List.mem_append_right _ (List.mem_of_getElem? (i := 480) (by decide +kernel)), List.mem_append_right _ (List.mem_of_getElem? (i := 1) (by decide +kernel)), List.mem_append_right _ (List.mem_of_getElem? (i := 483) (by decide +kernel)), ⟨by decide +kernel, by decide +kernel⟩, by decide +kernel⟩, List.mem_append_right _ (List.mem_of_getElem? (i := 481) (by decide +kernel)), List.mem_append_right _ (List.mem_of_getElem? (i := 482) (by decide +kernel)), TX6, 8, rfl⟩
theorem ck_L_35 : CK RL 35 mX7_letter 3 7 := ⟨⟨List.mem_append_right _ (List.mem_of_getElem? (i := 837) (by decide +kernel)), List.mem_append_right _ (List.mem_of_getElem? (i := 14) (by decide +kernel)), List.mem_append_right _ (List.mem_of_getElem? (i := 840) (by decide +kernel)), ⟨by decide +kernel, by decide +kernel⟩, by decide +kernel⟩, List.mem_append_right _ (List.mem_of_getElem? (i := 838) (by decide +kernel)), List.mem_append_right _ (List.mem_of_getElem? (i := 839) (by decide +kernel)), TX7, 18, rfl⟩
theorem ck_L_36 : CK RL 36 mX6_hear 3 6 := ⟨⟨List.mem_append_right _ (List.mem_of_getElem? (i := 500) (by decide +kernel)), List.mem_append_right _ (List.mem_of_getElem? (i := 1) (by decide +kernel)), List.mem_append_right _ (List.mem_of_getElem? (i := 503) (by decide +kernel)), ⟨by decide +kernel, by decide +kernel⟩, by decide +kernel⟩, List.mem_append_right _ (List.mem_of_getElem? (i := 501) (by decide +kernel)), List.mem_append_right _ (List.mem_of_getElem? (i := 502) (by decide +kernel)), TX6, 8, rfl⟩
theorem ck_L_39 : CK RL 39 mX7_hear 3 7 := ⟨⟨List.mem_append_right _ (List.mem_of_getElem? (i := 853) (by decide +kernel)), List.mem_append_right _ (List.mem_of_getElem? (i := 14) (by decide +kernel)), List.mem_append_right _ (List.mem_of_getElem? (i := 856) (by decide +kernel)), ⟨by decide +kernel, by decide +kernel⟩, by decide +kernel⟩, List.mem_append_right _ (List.mem_of_getElem? (i := 854) (by decide +kernel)), List.mem_append_right _ (List.mem_of_getElem? (i := 855) (by decide +kernel)), TX7, 18, rfl⟩
theorem ck_L_40 : CK RL 40 mX6_draws 1 6 := ⟨⟨List.mem_append_right _ (List.mem_of_getElem? (i := 518) (by decide +kernel)), List.mem_append_right _ (List.mem_of_getElem? (i := 1) (by decide +kernel)), List.mem_append_right _ (List.mem_of_getElem? (i := 521) (by decide +kernel)), ⟨by decide +kernel, by decide +kernel⟩, by decide +kernel⟩, List.mem_append_right _ (List.mem_of_getElem? (i := 519) (by decide +kernel)), List.mem_append_right _ (List.mem_of_getElem? (i := 520) (by decide +kernel)), TX6, 8, rfl⟩
theorem ck_L_43 : CK RL 43 mX7_draws 1 7 := ⟨⟨List.mem_append_right _ (List.mem_of_getElem? (i := 869) (by decide +kernel)), List.mem_append_right _ (List.mem_of_getElem? (i := 14) (by decide +kernel)), List.mem_append_right _ (List.mem_of_getElem? (i := 872) (by decide +kernel)), ⟨by decide +kernel, by decide +kernel⟩, by decide +kernel⟩, List.mem_append_right _ (List.mem_of_getElem? (i := 870) (by decide +kernel)), List.mem_append_right _ (List.mem_of_getElem? (i := 871) (by decide +kernel)), TX7, 18, rfl⟩
theorem ck_L_44 : CK RL 44 mX6_slot 1 6 := ⟨⟨List.mem_append_right _ (List.mem_of_getElem? (i := 522) (by decide +kernel)), List.mem_append_right _ (List.mem_of_getElem? (i := 1) (by decide +kernel)), List.mem_append_right _ (List.mem_of_getElem? (i := 525) (by decide +kernel)), ⟨by decide +kernel, by decide +kernel⟩, by decide +kernel⟩, List.mem_append_right _ (List.mem_of_getElem? (i := 523) (by decide +kernel)), List.mem_append_right _ (List.mem_of_getElem? (i := 524) (by decide +kernel)), TX6, 8, rfl⟩
theorem ck_L_47 : CK RL 47 mX7_slot 1 7 := ⟨⟨List.mem_append_right _ (List.mem_of_getElem? (i := 873) (by decide +kernel)), List.mem_append_right _ (List.mem_of_getElem? (i := 14) (by decide +kernel)), List.mem_append_right _ (List.mem_of_getElem? (i := 876) (by decide +kernel)), ⟨by decide +kernel, by decide +kernel⟩, by decide +kernel⟩, List.mem_append_right _ (List.mem_of_getElem? (i := 874) (by decide +kernel)), List.mem_append_right _ (List.mem_of_getElem? (i := 875) (by decide +kernel)), TX7, 18, rfl⟩
theorem ck_L_48 : CK RL 48 mX6_undo 0 6 := ⟨⟨List.mem_append_right _ (List.mem_of_getElem? (i := 618) (by decide +kernel)), List.mem_append_right _ (List.mem_of_getElem? (i := 1) (by decide +kernel)), List.mem_append_right _ (List.mem_of_getElem? (i := 621) (by decide +kernel)), ⟨by decide +kernel, by decide +kernel⟩, by decide +kernel⟩, List.mem_append_right _ (List.mem_of_getElem? (i := 619) (by decide +kernel)), List.mem_append_right _ (List.mem_of_getElem? (i := 620) (by decide +kernel)), TX6, 8, rfl⟩
theorem ck_L_51 : CK RL 51 mX7_undo 0 7 := ⟨⟨List.mem_append_right _ (List.mem_of_getElem? (i := 833) (by decide +kernel)), List.mem_append_right _ (List.mem_of_getElem? (i := 14) (by decide +kernel)), List.mem_append_right _ (List.mem_of_getElem? (i := 836) (by decide +kernel)), ⟨by decide +kernel, by decide +kernel⟩, by decide +kernel⟩, List.mem_append_right _ (List.mem_of_getElem? (i := 834) (by decide +kernel)), List.mem_append_right _ (List.mem_of_getElem? (i := 835) (by decide +kernel)), TX7, 18, rfl⟩
theorem ck_L_52 : CK RL 52 mX6_station 2 6 := ⟨⟨List.mem_append_right _ (List.mem_of_getElem? (i := 622) (by decide +kernel)), List.mem_append_right _ (List.mem_of_getElem? (i := 1) (by decide +kernel)), List.mem_append_right _ (List.mem_of_getElem? (i := 625) (by decide +kernel)), ⟨by decide +kernel, by decide +kernel⟩, by decide +kernel⟩, List.mem_append_right _ (List.mem_of_getElem? (i := 623) (by decide +kernel)), List.mem_append_right _ (List.mem_of_getElem? (i := 624) (by decide +kernel)), TX6, 8, rfl⟩
theorem ck_L_56 : CK RL 56 mX7_station 2 7 := ⟨⟨List.mem_append_right _ (List.mem_of_getElem? (i := 928) (by decide +kernel)), List.mem_append_right _ (List.mem_of_getElem? (i := 14) (by decide +kernel)), List.mem_append_right _ (List.mem_of_getElem? (i := 931) (by decide +kernel)), ⟨by decide +kernel, by decide +kernel⟩, by decide +kernel⟩, List.mem_append_right _ (List.mem_of_getElem? (i := 929) (by decide +kernel)), List.mem_append_right _ (List.mem_of_getElem? (i := 930) (by decide +kernel)), TX7, 18, rfl⟩
theorem ck_L_57 : CK RL 57 mX6_letterOf 3 6 := ⟨⟨List.mem_append_right _ (List.mem_of_getElem? (i := 627) (by decide +kernel)), List.mem_append_right _ (List.mem_of_getElem? (i := 1) (by decide +kernel)), List.mem_append_right _ (List.mem_of_getElem? (i := 630) (by decide +kernel)), ⟨by decide +kernel, by decide +kernel⟩, by decide +kernel⟩, List.mem_append_right _ (List.mem_of_getElem? (i := 628) (by decide +kernel)), List.mem_append_right _ (List.mem_of_getElem? (i := 629) (by decide +kernel)), TX6, 8, rfl⟩
theorem ck_L_60 : CK RL 60 mX7_letterOf 3 7 := ⟨⟨List.mem_append_right _ (List.mem_of_getElem? (i := 932) (by decide +kernel)), List.mem_append_right _ (List.mem_of_getElem? (i := 14) (by decide +kernel)), List.mem_append_right _ (List.mem_of_getElem? (i := 935) (by decide +kernel)), ⟨by decide +kernel, by decide +kernel⟩, by decide +kernel⟩, List.mem_append_right _ (List.mem_of_getElem? (i := 933) (by decide +kernel)), List.mem_append_right _ (List.mem_of_getElem? (i := 934) (by decide +kernel)), TX7, 18, rfl⟩
theorem ck_L_61 : CK RL 61 mX6_overheard 3 6 := ⟨⟨List.mem_append_right _ (List.mem_of_getElem? (i := 632) (by decide +kernel)), List.mem_append_right _ (List.mem_of_getElem? (i := 1) (by decide +kernel)), List.mem_append_right _ (List.mem_of_getElem? (i := 635) (by decide +kernel)), ⟨by decide +kernel, by decide +kernel⟩, by decide +kernel⟩, List.mem_append_right _ (List.mem_of_getElem? (i := 633) (by decide +kernel)), List.mem_append_right _ (List.mem_of_getElem? (i := 634) (by decide +kernel)), TX6, 8, rfl⟩
theorem ck_L_64 : CK RL 64 mX7_overheard 3 7 := ⟨⟨List.mem_append_right _ (List.mem_of_getElem? (i := 936) (by decide +kernel)), List.mem_append_right _ (List.mem_of_getElem? (i := 14) (by decide +kernel)), List.mem_append_right _ (List.mem_of_getElem? (i := 939) (by decide +kernel)), ⟨by decide +kernel, by decide +kernel⟩, by decide +kernel⟩, List.mem_append_right _ (List.mem_of_getElem? (i := 937) (by decide +kernel)), List.mem_append_right _ (List.mem_of_getElem? (i := 938) (by decide +kernel)), TX7, 18, rfl⟩
theorem ck_L_65 : CK RL 65 mX6_pair 2 6 := ⟨⟨List.mem_append_right _ (List.mem_of_getElem? (i := 640) (by decide +kernel)), List.mem_append_right _ (List.mem_of_getElem? (i := 1) (by decide +kernel)), List.mem_append_right _ (List.mem_of_getElem? (i := 643) (by decide +kernel)), ⟨by decide +kernel, by decide +kernel⟩, by decide +kernel⟩, List.mem_append_right _ (List.mem_of_getElem? (i := 641) (by decide +kernel)), List.mem_append_right _ (List.mem_of_getElem? (i := 642) (by decide +kernel)), TX6, 8, rfl⟩
theorem ck_L_68 : CK RL 68 mX7_pair 2 7 := ⟨⟨List.mem_append_right _ (List.mem_of_getElem? (i := 940) (by decide +kernel)), List.mem_append_right _ (List.mem_of_getElem? (i := 14) (by decide +kernel)), List.mem_append_right _ (List.mem_of_getElem? (i := 943) (by decide +kernel)), ⟨by decide +kernel, by decide +kernel⟩, by decide +kernel⟩, List.mem_append_right _ (List.mem_of_getElem? (i := 941) (by decide +kernel)), List.mem_append_right _ (List.mem_of_getElem? (i := 942) (by decide +kernel)), TX7, 18, rfl⟩
theorem ck_L_69 : CK RL 69 mX6_draw 2 6 := ⟨⟨List.mem_append_right _ (List.mem_of_getElem? (i := 645) (by decide +kernel)), List.mem_append_right _ (List.mem_of_getElem? (i := 1) (by decide +kernel)), List.mem_append_right _ (List.mem_of_getElem? (i := 648) (by decide +kernel)), ⟨by decide +kernel, by decide +kernel⟩, by decide +kernel⟩, List.mem_append_right _ (List.mem_of_getElem? (i := 646) (by decide +kernel)), List.mem_append_right _ (List.mem_of_getElem? (i := 647) (by decide +kernel)), TX6, 8, rfl⟩
theorem ck_L_72 : CK RL 72 mX7_draw 2 7 := ⟨⟨List.mem_append_right _ (List.mem_of_getElem? (i := 944) (by decide +kernel)), List.mem_append_right _ (List.mem_of_getElem? (i := 14) (by decide +kernel)), List.mem_append_right _ (List.mem_of_getElem? (i := 947) (by decide +kernel)), ⟨by decide +kernel, by decide +kernel⟩, by decide +kernel⟩, List.mem_append_right _ (List.mem_of_getElem? (i := 945) (by decide +kernel)), List.mem_append_right _ (List.mem_of_getElem? (i := 946) (by decide +kernel)), TX7, 18, rfl⟩
theorem ck_L_73 : CK RL 73 mX6_took 2 6 := ⟨⟨List.mem_append_right _ (List.mem_of_getElem? (i := 650) (by decide +kernel)), List.mem_append_right _ (List.mem_of_getElem? (i := 1) (by decide +kernel)), List.mem_append_right _ (List.mem_of_getElem? (i := 653) (by decide +kernel)), ⟨by decide +kernel, by decide +kernel⟩, by decide +kernel⟩, List.mem_append_right _ (List.mem_of_getElem? (i := 651) (by decide +kernel)), List.mem_append_right _ (List.mem_of_getElem? (i := 652) (by decide +kernel)), TX6, 8, rfl⟩
theorem ck_L_76 : CK RL 76 mX7_took 2 7 := ⟨⟨List.mem_append_right _ (List.mem_of_getElem? (i := 948) (by decide +kernel)), List.mem_append_right _ (List.mem_of_getElem? (i := 14) (by decide +kernel)), List.mem_append_right _ (List.mem_of_getElem? (i := 951) (by decide +kernel)), ⟨by decide +kernel, by decide +kernel⟩, by decide +kernel⟩, List.mem_append_right _ (List.mem_of_getElem? (i := 949) (by decide +kernel)), List.mem_append_right _ (List.mem_of_getElem? (i := 950) (by decide +kernel)), TX7, 18, rfl⟩
theorem ck_L_77 : CK RL 77 mX6_ahead 2 6 := ⟨⟨List.mem_append_right _ (List.mem_of_getElem? (i := 654) (by decide +kernel)), List.mem_append_right _ (List.mem_of_getElem? (i := 1) (by decide +kernel)), List.mem_append_right _ (List.mem_of_getElem? (i := 657) (by decide +kernel)), ⟨by decide +kernel, by decide +kernel⟩, by decide +kernel⟩, List.mem_append_right _ (List.mem_of_getElem? (i := 655) (by decide +kernel)), List.mem_append_right _ (List.mem_of_getElem? (i := 656) (by decide +kernel)), TX6, 8, rfl⟩
theorem ck_L_80 : CK RL 80 mX7_ahead 2 7 := ⟨⟨List.mem_append_right _ (List.mem_of_getElem? (i := 952) (by decide +kernel)), List.mem_append_right _ (List.mem_of_getElem? (i := 14) (by decide +kernel)), List.mem_append_right _ (List.mem_of_getElem? (i := 955) (by decide +kernel)), ⟨by decide +kernel, by decide +kernel⟩, by decide +kernel⟩, List.mem_append_right _ (List.mem_of_getElem? (i := 953) (by decide +kernel)), List.mem_append_right _ (List.mem_of_getElem? (i := 954) (by decide +kernel)), TX7, 18, rfl⟩
theorem ck_L_81 : CK RL 81 mX6_soon 0 6 := ⟨⟨List.mem_append_right _ (List.mem_of_getElem? (i := 671) (by decide +kernel)), List.mem_append_right _ (List.mem_of_getElem? (i := 1) (by decide +kernel)), List.mem_append_right _ (List.mem_of_getElem? (i := 674) (by decide +kernel)), ⟨by decide +kernel, by decide +kernel⟩, by decide +kernel⟩, List.mem_append_right _ (List.mem_of_getElem? (i := 672) (by decide +kernel)), List.mem_append_right _ (List.mem_of_getElem? (i := 673) (by decide +kernel)), TX6, 8, rfl⟩
theorem ck_L_84 : CK RL 84 mX7_soon 0 7 := ⟨⟨List.mem_append_right _ (List.mem_of_getElem? (i := 956) (by decide +kernel)), List.mem_append_right _ (List.mem_of_getElem? (i := 14) (by decide +kernel)), List.mem_append_right _ (List.mem_of_getElem? (i := 959) (by decide +kernel)), ⟨by decide +kernel, by decide +kernel⟩, by decide +kernel⟩, List.mem_append_right _ (List.mem_of_getElem? (i := 957) (by decide +kernel)), List.mem_append_right _ (List.mem_of_getElem? (i := 958) (by decide +kernel)), TX7, 18, rfl⟩
theorem ck_L_85 : CK RL 85 mX6_count 1 6 := ⟨⟨List.mem_append_right _ (List.mem_of_getElem? (i := 675) (by decide +kernel)), List.mem_append_right _ (List.mem_of_getElem? (i := 1) (by decide +kernel)), List.mem_append_right _ (List.mem_of_getElem? (i := 678) (by decide +kernel)), ⟨by decide +kernel, by decide +kernel⟩, by decide +kernel⟩, List.mem_append_right _ (List.mem_of_getElem? (i := 676) (by decide +kernel)), List.mem_append_right _ (List.mem_of_getElem? (i := 677) (by decide +kernel)), TX6, 8, rfl⟩
theorem ck_L_88 : CK RL 88 mX7_count 1 7 := ⟨⟨List.mem_append_right _ (List.mem_of_getElem? (i := 960) (by decide +kernel)), List.mem_append_right _ (List.mem_of_getElem? (i := 14) (by decide +kernel)), List.mem_append_right _ (List.mem_of_getElem? (i := 963) (by decide +kernel)), ⟨by decide +kernel, by decide +kernel⟩, by decide +kernel⟩, List.mem_append_right _ (List.mem_of_getElem? (i := 961) (by decide +kernel)), List.mem_append_right _ (List.mem_of_getElem? (i := 962) (by decide +kernel)), TX7, 18, rfl⟩
theorem ck_X2_47 : CK RX2 47 mX5_clear 0 5 := ⟨⟨List.mem_append_right _ (List.mem_of_getElem? (i := 319) (by decide +kernel)), List.mem_append_right _ (List.mem_of_getElem? (i := 3) (by decide +kernel)), List.mem_append_right _ (List.mem_of_getElem? (i := 322) (by decide +kernel)), ⟨by decide +kernel, by decide +kernel⟩, by decide +kernel⟩, List.mem_append_right _ (List.mem_of_getElem? (i := 320) (by decide +kernel)), List.mem_append_right _ (List.mem_of_getElem? (i := 321) (by decide +kernel)), TX5, 19, rfl⟩
theorem ck_X2_56 : CK RX2 56 mX5_copyFrom 1 5 := ⟨⟨List.mem_append_right _ (List.mem_of_getElem? (i := 420) (by decide +kernel)), List.mem_append_right _ (List.mem_of_getElem? (i := 3) (by decide +kernel)), List.mem_append_right _ (List.mem_of_getElem? (i := 423) (by decide +kernel)), ⟨by decide +kernel, by decide +kernel⟩, by decide +kernel⟩, List.mem_append_right _ (List.mem_of_getElem? (i := 421) (by decide +kernel)), List.mem_append_right _ (List.mem_of_getElem? (i := 422) (by decide +kernel)), TX5, 19, rfl⟩
theorem ck_X2_77 : CK RX2 77 mX2_drawWait 1 2 := ⟨⟨List.mem_append_right _ (List.mem_of_getElem? (i := 402) (by decide +kernel)), List.mem_append_right _ (List.mem_of_getElem? (i := 2) (by decide +kernel)), List.mem_append_right _ (List.mem_of_getElem? (i := 405) (by decide +kernel)), ⟨by decide +kernel, by decide +kernel⟩, by decide +kernel⟩, List.mem_append_right _ (List.mem_of_getElem? (i := 403) (by decide +kernel)), List.mem_append_right _ (List.mem_of_getElem? (i := 404) (by decide +kernel)), TX2, 10, rfl⟩
theorem ck_X2_177 : CK RX2 177 mX5_take 3 5 := ⟨⟨List.mem_append_right _ (List.mem_of_getElem? (i := 581) (by decide +kernel)), List.mem_append_right _ (List.mem_of_getElem? (i := 3) (by decide +kernel)), List.mem_append_right _ (List.mem_of_getElem? (i := 584) (by decide +kernel)), ⟨by decide +kernel, by decide +kernel⟩, by decide +kernel⟩, List.mem_append_right _ (List.mem_of_getElem? (i := 582) (by decide +kernel)), List.mem_append_right _ (List.mem_of_getElem? (i := 583) (by decide +kernel)), TX5, 19, rfl⟩
theorem ck_X2_181 : CK RX2 181 mX5_overhear 3 5 := ⟨⟨List.mem_append_right _ (List.mem_of_getElem? (i := 589) (by decide +kernel)), List.mem_append_right _ (List.mem_of_getElem? (i := 3) (by decide +kernel)), List.mem_append_right _ (List.mem_of_getElem? (i := 592) (by decide +kernel)), ⟨by decide +kernel, by decide +kernel⟩, by decide +kernel⟩, List.mem_append_right _ (List.mem_of_getElem? (i := 590) (by decide +kernel)), List.mem_append_right _ (List.mem_of_getElem? (i := 591) (by decide +kernel)), TX5, 19, rfl⟩
theorem ck_X2_119 : CK RX2 119 mX2_mayBegin 1 2 := ⟨⟨List.mem_append_right _ (List.mem_of_getElem? (i := 546) (by decide +kernel)), List.mem_append_right _ (List.mem_of_getElem? (i := 2) (by decide +kernel)), List.mem_append_right _ (List.mem_of_getElem? (i := 549) (by decide +kernel)), ⟨by decide +kernel, by decide +kernel⟩, by decide +kernel⟩, List.mem_append_right _ (List.mem_of_getElem? (i := 547) (by decide +kernel)), List.mem_append_right _ (List.mem_of_getElem? (i := 548) (by decide +kernel)), TX2, 10, rfl⟩
theorem ck_X2_126 : CK RX2 126 mX2_isAsked 1 2 := ⟨⟨List.mem_append_right _ (List.mem_of_getElem? (i := 550) (by decide +kernel)), List.mem_append_right _ (List.mem_of_getElem? (i := 2) (by decide +kernel)), List.mem_append_right _ (List.mem_of_getElem? (i := 553) (by decide +kernel)), ⟨by decide +kernel, by decide +kernel⟩, by decide +kernel⟩, List.mem_append_right _ (List.mem_of_getElem? (i := 551) (by decide +kernel)), List.mem_append_right _ (List.mem_of_getElem? (i := 552) (by decide +kernel)), TX2, 10, rfl⟩
theorem ck_X2_147 : CK RX2 147 mX5_awaitAnswer 0 5 := ⟨⟨List.mem_append_right _ (List.mem_of_getElem? (i := 563) (by decide +kernel)), List.mem_append_right _ (List.mem_of_getElem? (i := 3) (by decide +kernel)), List.mem_append_right _ (List.mem_of_getElem? (i := 566) (by decide +kernel)), ⟨by decide +kernel, by decide +kernel⟩, by decide +kernel⟩, List.mem_append_right _ (List.mem_of_getElem? (i := 564) (by decide +kernel)), List.mem_append_right _ (List.mem_of_getElem? (i := 565) (by decide +kernel)), TX5, 19, rfl⟩
theorem cs_X2_150 : CS RX2 150 mJ6_bitCount_0f7a4 1 := ⟨⟨List.mem_append_right _ (List.mem_of_getElem? (i := 567) (by decide +kernel)), List.mem_append_right _ (List.mem_of_getElem? (i := 15) (by decide +kernel)), List.mem_append_right _ (List.mem_of_getElem? (i := 569) (by decide +kernel)), ⟨by decide +kernel, by decide +kernel⟩, by decide +kernel⟩, List.mem_append_right _ (List.mem_of_getElem? (i := 568) (by decide +kernel))⟩
theorem ck_X2_158 : CK RX2 158 mX2_lowestOf 1 2 := ⟨⟨List.mem_append_right _ (List.mem_of_getElem? (i := 573) (by decide +kernel)), List.mem_append_right _ (List.mem_of_getElem? (i := 2) (by decide +kernel)), List.mem_append_right _ (List.mem_of_getElem? (i := 576) (by decide +kernel)), ⟨by decide +kernel, by decide +kernel⟩, by decide +kernel⟩, List.mem_append_right _ (List.mem_of_getElem? (i := 574) (by decide +kernel)), List.mem_append_right _ (List.mem_of_getElem? (i := 575) (by decide +kernel)), TX2, 10, rfl⟩
theorem ck_X2_161 : CK RX2 161 mX2_getFrom 2 2 := ⟨⟨List.mem_append_right _ (List.mem_of_getElem? (i := 577) (by decide +kernel)), List.mem_append_right _ (List.mem_of_getElem? (i := 2) (by decide +kernel)), List.mem_append_right _ (List.mem_of_getElem? (i := 580) (by decide +kernel)), ⟨by decide +kernel, by decide +kernel⟩, by decide +kernel⟩, List.mem_append_right _ (List.mem_of_getElem? (i := 578) (by decide +kernel)), List.mem_append_right _ (List.mem_of_getElem? (i := 579) (by decide +kernel)), TX2, 10, rfl⟩
theorem ck_X2_164 : CK RX2 164 mX2_tallySent 1 2 := ⟨⟨List.mem_append_right _ (List.mem_of_getElem? (i := 600) (by decide +kernel)), List.mem_append_right _ (List.mem_of_getElem? (i := 2) (by decide +kernel)), List.mem_append_right _ (List.mem_of_getElem? (i := 603) (by decide +kernel)), ⟨by decide +kernel, by decide +kernel⟩, by decide +kernel⟩, List.mem_append_right _ (List.mem_of_getElem? (i := 601) (by decide +kernel)), List.mem_append_right _ (List.mem_of_getElem? (i := 602) (by decide +kernel)), TX2, 10, rfl⟩
theorem ck_X2_167 : CK RX2 167 mX5_closeLetter 1 5 := ⟨⟨List.mem_append_right _ (List.mem_of_getElem? (i := 604) (by decide +kernel)), List.mem_append_right _ (List.mem_of_getElem? (i := 3) (by decide +kernel)), List.mem_append_right _ (List.mem_of_getElem? (i := 607) (by decide +kernel)), ⟨by decide +kernel, by decide +kernel⟩, by decide +kernel⟩, List.mem_append_right _ (List.mem_of_getElem? (i := 605) (by decide +kernel)), List.mem_append_right _ (List.mem_of_getElem? (i := 606) (by decide +kernel)), TX5, 19, rfl⟩
theorem ck_X2_170 : CK RX2 170 mX5_failLetter 3 5 := ⟨⟨List.mem_append_right _ (List.mem_of_getElem? (i := 612) (by decide +kernel)), List.mem_append_right _ (List.mem_of_getElem? (i := 3) (by decide +kernel)), List.mem_append_right _ (List.mem_of_getElem? (i := 615) (by decide +kernel)), ⟨by decide +kernel, by decide +kernel⟩, by decide +kernel⟩, List.mem_append_right _ (List.mem_of_getElem? (i := 613) (by decide +kernel)), List.mem_append_right _ (List.mem_of_getElem? (i := 614) (by decide +kernel)), TX5, 19, rfl⟩
theorem ck_X2_63 : CK RX2 63 mX2_hears 2 2 := ⟨⟨List.mem_append_right _ (List.mem_of_getElem? (i := 517) (by decide +kernel)), List.mem_append_right _ (List.mem_of_getElem? (i := 2) (by decide +kernel)), List.mem_append_right _ (List.mem_of_getElem? (i := 381) (by decide +kernel)), ⟨by decide +kernel, by decide +kernel⟩, by decide +kernel⟩, List.mem_append_right _ (List.mem_of_getElem? (i := 379) (by decide +kernel)), List.mem_append_right _ (List.mem_of_getElem? (i := 380) (by decide +kernel)), TX2, 10, rfl⟩
theorem ck_X2_66 : CK RX2 66 mX2_nearness 2 2 := ⟨⟨List.mem_append_right _ (List.mem_of_getElem? (i := 513) (by decide +kernel)), List.mem_append_right _ (List.mem_of_getElem? (i := 2) (by decide +kernel)), List.mem_append_right _ (List.mem_of_getElem? (i := 516) (by decide +kernel)), ⟨by decide +kernel, by decide +kernel⟩, by decide +kernel⟩, List.mem_append_right _ (List.mem_of_getElem? (i := 514) (by decide +kernel)), List.mem_append_right _ (List.mem_of_getElem? (i := 515) (by decide +kernel)), TX2, 10, rfl⟩
theorem ck_X2_130 : CK RX2 130 mX2_sendAll 0 2 := ⟨⟨List.mem_append_right _ (List.mem_of_getElem? (i := 538) (by decide +kernel)), List.mem_append_right _ (List.mem_of_getElem? (i := 2) (by decide +kernel)), List.mem_append_right _ (List.mem_of_getElem? (i := 541) (by decide +kernel)), ⟨by decide +kernel, by decide +kernel⟩, by decide +kernel⟩, List.mem_append_right _ (List.mem_of_getElem? (i := 539) (by decide +kernel)), List.mem_append_right _ (List.mem_of_getElem? (i := 540) (by decide +kernel)), TX2, 10, rfl⟩
theorem ck_X2_134 : CK RX2 134 mX2_listen 1 2 := ⟨⟨List.mem_append_right _ (List.mem_of_getElem? (i := 559) (by decide +kernel)), List.mem_append_right _ (List.mem_of_getElem? (i := 2) (by decide +kernel)), List.mem_append_right _ (List.mem_of_getElem? (i := 562) (by decide +kernel)), ⟨by decide +kernel, by decide +kernel⟩, by decide +kernel⟩, List.mem_append_right _ (List.mem_of_getElem? (i := 560) (by decide +kernel)), List.mem_append_right _ (List.mem_of_getElem? (i := 561) (by decide +kernel)), TX2, 10, rfl⟩
theorem ck_X2_137 : CK RX2 137 mX2_kindToSend 1 2 := ⟨⟨List.mem_append_right _ (List.mem_of_getElem? (i := 542) (by decide +kernel)), List.mem_append_right _ (List.mem_of_getElem? (i := 2) (by decide +kernel)), List.mem_append_right _ (List.mem_of_getElem? (i := 545) (by decide +kernel)), ⟨by decide +kernel, by decide +kernel⟩, by decide +kernel⟩, List.mem_append_right _ (List.mem_of_getElem? (i := 543) (by decide +kernel)), List.mem_append_right _ (List.mem_of_getElem? (i := 544) (by decide +kernel)), TX2, 10, rfl⟩
theorem ck_X2_141 : CK RX2 141 mX5_send 1 5 := ⟨⟨List.mem_append_right _ (List.mem_of_getElem? (i := 554) (by decide +kernel)), List.mem_append_right _ (List.mem_of_getElem? (i := 3) (by decide +kernel)), List.mem_append_right _ (List.mem_of_getElem? (i := 557) (by decide +kernel)), ⟨by decide +kernel, by decide +kernel⟩, by decide +kernel⟩, List.mem_append_right _ (List.mem_of_getElem? (i := 555) (by decide +kernel)), List.mem_append_right _ (List.mem_of_getElem? (i := 556) (by decide +kernel)), TX5, 19, rfl⟩
theorem ck_X2_70 : CK RX2 70 mX5_tallyOf 1 5 := ⟨⟨List.mem_append_right _ (List.mem_of_getElem? (i := 530) (by decide +kernel)), List.mem_append_right _ (List.mem_of_getElem? (i := 3) (by decide +kernel)), List.mem_append_right _ (List.mem_of_getElem? (i := 533) (by decide +kernel)), ⟨by decide +kernel, by decide +kernel⟩, by decide +kernel⟩, List.mem_append_right _ (List.mem_of_getElem? (i := 531) (by decide +kernel)), List.mem_append_right _ (List.mem_of_getElem? (i := 532) (by decide +kernel)), TX5, 19, rfl⟩
theorem ck_X3_87 : CK RX3 87 mX3_arePair 2 3 := ⟨⟨List.mem_append_right _ (List.mem_of_getElem? (i := 366) (by decide +kernel)), List.mem_append_right _ (List.mem_of_getElem? (i := 7) (by decide +kernel)), List.mem_append_right _ (List.mem_of_getElem? (i := 369) (by decide +kernel)), ⟨by decide +kernel, by decide +kernel⟩, by decide +kernel⟩, List.mem_append_right _ (List.mem_of_getElem? (i := 367) (by decide +kernel)), List.mem_append_right _ (List.mem_of_getElem? (i := 368) (by decide +kernel)), TX3, 5, rfl⟩
theorem ck_X3_90 : CK RX3 90 mX2_join 3 2 := ⟨⟨List.mem_append_right _ (List.mem_of_getElem? (i := 370) (by decide +kernel)), List.mem_append_right _ (List.mem_of_getElem? (i := 2) (by decide +kernel)), List.mem_append_right _ (List.mem_of_getElem? (i := 373) (by decide +kernel)), ⟨by decide +kernel, by decide +kernel⟩, by decide +kernel⟩, List.mem_append_right _ (List.mem_of_getElem? (i := 371) (by decide +kernel)), List.mem_append_right _ (List.mem_of_getElem? (i := 372) (by decide +kernel)), TX2, 10, rfl⟩
theorem ck_X3_70 : CK RX3 70 mX3_applyHear 2 3 := ⟨⟨List.mem_append_right _ (List.mem_of_getElem? (i := 362) (by decide +kernel)), List.mem_append_right _ (List.mem_of_getElem? (i := 7) (by decide +kernel)), List.mem_append_right _ (List.mem_of_getElem? (i := 365) (by decide +kernel)), ⟨by decide +kernel, by decide +kernel⟩, by decide +kernel⟩, List.mem_append_right _ (List.mem_of_getElem? (i := 363) (by decide +kernel)), List.mem_append_right _ (List.mem_of_getElem? (i := 364) (by decide +kernel)), TX3, 5, rfl⟩
theorem ck_X3_74 : CK RX3 74 mX3_applyLetter 3 3 := ⟨⟨List.mem_append_right _ (List.mem_of_getElem? (i := 374) (by decide +kernel)), List.mem_append_right _ (List.mem_of_getElem? (i := 7) (by decide +kernel)), List.mem_append_right _ (List.mem_of_getElem? (i := 377) (by decide +kernel)), ⟨by decide +kernel, by decide +kernel⟩, by decide +kernel⟩, List.mem_append_right _ (List.mem_of_getElem? (i := 375) (by decide +kernel)), List.mem_append_right _ (List.mem_of_getElem? (i := 376) (by decide +kernel)), TX3, 5, rfl⟩
theorem ck_X3_78 : CK RX3 78 mX3_applyWindows 2 3 := ⟨⟨List.mem_append_right _ (List.mem_of_getElem? (i := 386) (by decide +kernel)), List.mem_append_right _ (List.mem_of_getElem? (i := 7) (by decide +kernel)), List.mem_append_right _ (List.mem_of_getElem? (i := 389) (by decide +kernel)), ⟨by decide +kernel, by decide +kernel⟩, by decide +kernel⟩, List.mem_append_right _ (List.mem_of_getElem? (i := 387) (by decide +kernel)), List.mem_append_right _ (List.mem_of_getElem? (i := 388) (by decide +kernel)), TX3, 5, rfl⟩
theorem ck_X3_81 : CK RX3 81 mX3_applyTries 2 3 := ⟨⟨List.mem_append_right _ (List.mem_of_getElem? (i := 390) (by decide +kernel)), List.mem_append_right _ (List.mem_of_getElem? (i := 7) (by decide +kernel)), List.mem_append_right _ (List.mem_of_getElem? (i := 393) (by decide +kernel)), ⟨by decide +kernel, by decide +kernel⟩, by decide +kernel⟩, List.mem_append_right _ (List.mem_of_getElem? (i := 391) (by decide +kernel)), List.mem_append_right _ (List.mem_of_getElem? (i := 392) (by decide +kernel)), TX3, 5, rfl⟩
theorem ck_X3_84 : CK RX3 84 mX3_applySeed 1 3 := ⟨⟨List.mem_append_right _ (List.mem_of_getElem? (i := 394) (by decide +kernel)), List.mem_append_right _ (List.mem_of_getElem? (i := 7) (by decide +kernel)), List.mem_append_right _ (List.mem_of_getElem? (i := 397) (by decide +kernel)), ⟨by decide +kernel, by decide +kernel⟩, by decide +kernel⟩, List.mem_append_right _ (List.mem_of_getElem? (i := 395) (by decide +kernel)), List.mem_append_right _ (List.mem_of_getElem? (i := 396) (by decide +kernel)), TX3, 5, rfl⟩
theorem ck_X3_94 : CK RX3 94 mX2_hears 2 2 := ⟨⟨List.mem_append_right _ (List.mem_of_getElem? (i := 378) (by decide +kernel)), List.mem_append_right _ (List.mem_of_getElem? (i := 2) (by decide +kernel)), List.mem_append_right _ (List.mem_of_getElem? (i := 381) (by decide +kernel)), ⟨by decide +kernel, by decide +kernel⟩, by decide +kernel⟩, List.mem_append_right _ (List.mem_of_getElem? (i := 379) (by decide +kernel)), List.mem_append_right _ (List.mem_of_getElem? (i := 380) (by decide +kernel)), TX2, 10, rfl⟩
theorem ck_X3_112 : CK RX3 112 mX0_add 2 0 := ⟨⟨List.mem_append_right _ (List.mem_of_getElem? (i := 382) (by decide +kernel)), List.mem_append_right _ (List.mem_of_getElem? (i := 4) (by decide +kernel)), List.mem_append_right _ (List.mem_of_getElem? (i := 385) (by decide +kernel)), ⟨by decide +kernel, by decide +kernel⟩, by decide +kernel⟩, List.mem_append_right _ (List.mem_of_getElem? (i := 383) (by decide +kernel)), List.mem_append_right _ (List.mem_of_getElem? (i := 384) (by decide +kernel)), TX0, 3, rfl⟩
theorem ck_X3_23 : CK RX3 23 mX2_clear 0 2 := ⟨⟨List.mem_append_right _ (List.mem_of_getElem? (i := 315) (by decide +kernel)), List.mem_append_right _ (List.mem_of_getElem? (i := 2) (by decide +kernel)), List.mem_append_right _ (List.mem_of_getElem? (i := 318) (by decide +kernel)), ⟨by decide +kernel, by decide +kernel⟩, by decide +kernel⟩, List.mem_append_right _ (List.mem_of_getElem? (i := 316) (by decide +kernel)), List.mem_append_right _ (List.mem_of_getElem? (i := 317) (by decide +kernel)), TX2, 10, rfl⟩
theorem ck_X3_41 : CK RX3 41 mX3_readItem 0 3 := ⟨⟨List.mem_append_right _ (List.mem_of_getElem? (i := 334) (by decide +kernel)), List.mem_append_right _ (List.mem_of_getElem? (i := 7) (by decide +kernel)), List.mem_append_right _ (List.mem_of_getElem? (i := 337) (by decide +kernel)), ⟨by decide +kernel, by decide +kernel⟩, by decide +kernel⟩, List.mem_append_right _ (List.mem_of_getElem? (i := 335) (by decide +kernel)), List.mem_append_right _ (List.mem_of_getElem? (i := 336) (by decide +kernel)), TX3, 5, rfl⟩
theorem ck_X3_45 : CK RX3 45 mX3_numbersBehind 1 3 := ⟨⟨List.mem_append_right _ (List.mem_of_getElem? (i := 338) (by decide +kernel)), List.mem_append_right _ (List.mem_of_getElem? (i := 7) (by decide +kernel)), List.mem_append_right _ (List.mem_of_getElem? (i := 341) (by decide +kernel)), ⟨by decide +kernel, by decide +kernel⟩, by decide +kernel⟩, List.mem_append_right _ (List.mem_of_getElem? (i := 339) (by decide +kernel)), List.mem_append_right _ (List.mem_of_getElem? (i := 340) (by decide +kernel)), TX3, 5, rfl⟩
theorem ck_X3_49 : CK RX3 49 mX3_readNumbers 1 3 := ⟨⟨List.mem_append_right _ (List.mem_of_getElem? (i := 342) (by decide +kernel)), List.mem_append_right _ (List.mem_of_getElem? (i := 7) (by decide +kernel)), List.mem_append_right _ (List.mem_of_getElem? (i := 345) (by decide +kernel)), ⟨by decide +kernel, by decide +kernel⟩, by decide +kernel⟩, List.mem_append_right _ (List.mem_of_getElem? (i := 343) (by decide +kernel)), List.mem_append_right _ (List.mem_of_getElem? (i := 344) (by decide +kernel)), TX3, 5, rfl⟩
theorem ck_X3_53 : CK RX3 53 mX3_setStations 1 3 := ⟨⟨List.mem_append_right _ (List.mem_of_getElem? (i := 354) (by decide +kernel)), List.mem_append_right _ (List.mem_of_getElem? (i := 7) (by decide +kernel)), List.mem_append_right _ (List.mem_of_getElem? (i := 357) (by decide +kernel)), ⟨by decide +kernel, by decide +kernel⟩, by decide +kernel⟩, List.mem_append_right _ (List.mem_of_getElem? (i := 355) (by decide +kernel)), List.mem_append_right _ (List.mem_of_getElem? (i := 356) (by decide +kernel)), TX3, 5, rfl⟩
theorem ck_X3_59 : CK RX3 59 mX3_applyItem 4 3 := ⟨⟨List.mem_append_right _ (List.mem_of_getElem? (i := 358) (by decide +kernel)), List.mem_append_right _ (List.mem_of_getElem? (i := 7) (by decide +kernel)), List.mem_append_right _ (List.mem_of_getElem? (i := 361) (by decide +kernel)), ⟨by decide +kernel, by decide +kernel⟩, by decide +kernel⟩, List.mem_append_right _ (List.mem_of_getElem? (i := 359) (by decide +kernel)), List.mem_append_right _ (List.mem_of_getElem? (i := 360) (by decide +kernel)), TX3, 5, rfl⟩
theorem ck_X3_63 : CK RX3 63 mX3_readNumber 1 3 := ⟨⟨List.mem_append_right _ (List.mem_of_getElem? (i := 346) (by decide +kernel)), List.mem_append_right _ (List.mem_of_getElem? (i := 7) (by decide +kernel)), List.mem_append_right _ (List.mem_of_getElem? (i := 349) (by decide +kernel)), ⟨by decide +kernel, by decide +kernel⟩, by decide +kernel⟩, List.mem_append_right _ (List.mem_of_getElem? (i := 347) (by decide +kernel)), List.mem_append_right _ (List.mem_of_getElem? (i := 348) (by decide +kernel)), TX3, 5, rfl⟩
theorem ck_X3_66 : CK RX3 66 mX3_readSign 1 3 := ⟨⟨List.mem_append_right _ (List.mem_of_getElem? (i := 350) (by decide +kernel)), List.mem_append_right _ (List.mem_of_getElem? (i := 7) (by decide +kernel)), List.mem_append_right _ (List.mem_of_getElem? (i := 353) (by decide +kernel)), ⟨by decide +kernel, by decide +kernel⟩, by decide +kernel⟩, List.mem_append_right _ (List.mem_of_getElem? (i := 351) (by decide +kernel)), List.mem_append_right _ (List.mem_of_getElem? (i := 352) (by decide +kernel)), TX3, 5, rfl⟩
theorem ck_X4_24 : CK RX4 24 mX4_put 4 4 := ⟨⟨List.mem_append_right _ (List.mem_of_getElem? (i := 327) (by decide +kernel)), List.mem_append_right _ (List.mem_of_getElem? (i := 6) (by decide +kernel)), List.mem_append_right _ (List.mem_of_getElem? (i := 330) (by decide +kernel)), ⟨by decide +kernel, by decide +kernel⟩, by decide +kernel⟩, List.mem_append_right _ (List.mem_of_getElem? (i := 328) (by decide +kernel)), List.mem_append_right _ (List.mem_of_getElem? (i := 329) (by decide +kernel)), TX4, 4, rfl⟩
theorem ck_X5_88 : CK RX5 88 mX4_clear 0 4 := ⟨⟨List.mem_append_right _ (List.mem_of_getElem? (i := 323) (by decide +kernel)), List.mem_append_right _ (List.mem_of_getElem? (i := 6) (by decide +kernel)), List.mem_append_right _ (List.mem_of_getElem? (i := 326) (by decide +kernel)), ⟨by decide +kernel, by decide +kernel⟩, by decide +kernel⟩, List.mem_append_right _ (List.mem_of_getElem? (i := 324) (by decide +kernel)), List.mem_append_right _ (List.mem_of_getElem? (i := 325) (by decide +kernel)), TX4, 4, rfl⟩
theorem ck_X5_135 : CK RX5 135 mX0_removeFirst 0 0 := ⟨⟨List.mem_append_right _ (List.mem_of_getElem? (i := 608) (by decide +kernel)), List.mem_append_right _ (List.mem_of_getElem? (i := 4) (by decide +kernel)), List.mem_append_right _ (List.mem_of_getElem? (i := 611) (by decide +kernel)), ⟨by decide +kernel, by decide +kernel⟩, by decide +kernel⟩, List.mem_append_right _ (List.mem_of_getElem? (i := 609) (by decide +kernel)), List.mem_append_right _ (List.mem_of_getElem? (i := 610) (by decide +kernel)), TX0, 3, rfl⟩
theorem ck_X5_91 : CK RX5 91 mX0_copyFrom 1 0 := ⟨⟨List.mem_append_right _ (List.mem_of_getElem? (i := 424) (by decide +kernel)), List.mem_append_right _ (List.mem_of_getElem? (i := 4) (by decide +kernel)), List.mem_append_right _ (List.mem_of_getElem? (i := 427) (by decide +kernel)), ⟨by decide +kernel, by decide +kernel⟩, by decide +kernel⟩, List.mem_append_right _ (List.mem_of_getElem? (i := 425) (by decide +kernel)), List.mem_append_right _ (List.mem_of_getElem? (i := 426) (by decide +kernel)), TX0, 3, rfl⟩
theorem ck_X5_95 : CK RX5 95 mX1_copyFrom 1 1 := ⟨⟨List.mem_append_right _ (List.mem_of_getElem? (i := 429) (by decide +kernel)), List.mem_append_right _ (List.mem_of_getElem? (i := 5) (by decide +kernel)), List.mem_append_right _ (List.mem_of_getElem? (i := 432) (by decide +kernel)), ⟨by decide +kernel, by decide +kernel⟩, by decide +kernel⟩, List.mem_append_right _ (List.mem_of_getElem? (i := 430) (by decide +kernel)), List.mem_append_right _ (List.mem_of_getElem? (i := 431) (by decide +kernel)), TX1, 2, rfl⟩
theorem ck_X5_98 : CK RX5 98 mX4_copyFrom 1 4 := ⟨⟨List.mem_append_right _ (List.mem_of_getElem? (i := 434) (by decide +kernel)), List.mem_append_right _ (List.mem_of_getElem? (i := 6) (by decide +kernel)), List.mem_append_right _ (List.mem_of_getElem? (i := 437) (by decide +kernel)), ⟨by decide +kernel, by decide +kernel⟩, by decide +kernel⟩, List.mem_append_right _ (List.mem_of_getElem? (i := 435) (by decide +kernel)), List.mem_append_right _ (List.mem_of_getElem? (i := 436) (by decide +kernel)), TX4, 4, rfl⟩
theorem ck_X5_138 : CK RX5 138 mX5_closeLetter 1 5 := ⟨⟨List.mem_append_right _ (List.mem_of_getElem? (i := 616) (by decide +kernel)), List.mem_append_right _ (List.mem_of_getElem? (i := 3) (by decide +kernel)), List.mem_append_right _ (List.mem_of_getElem? (i := 607) (by decide +kernel)), ⟨by decide +kernel, by decide +kernel⟩, by decide +kernel⟩, List.mem_append_right _ (List.mem_of_getElem? (i := 605) (by decide +kernel)), List.mem_append_right _ (List.mem_of_getElem? (i := 606) (by decide +kernel)), TX5, 19, rfl⟩
theorem ck_X5_117 : CK RX5 117 mX1_add 4 1 := ⟨⟨List.mem_append_right _ (List.mem_of_getElem? (i := 593) (by decide +kernel)), List.mem_append_right _ (List.mem_of_getElem? (i := 5) (by decide +kernel)), List.mem_append_right _ (List.mem_of_getElem? (i := 596) (by decide +kernel)), ⟨by decide +kernel, by decide +kernel⟩, by decide +kernel⟩, List.mem_append_right _ (List.mem_of_getElem? (i := 594) (by decide +kernel)), List.mem_append_right _ (List.mem_of_getElem? (i := 595) (by decide +kernel)), TX1, 2, rfl⟩
theorem ck_X5_108 : CK RX5 108 mX4_put 4 4 := ⟨⟨List.mem_append_right _ (List.mem_of_getElem? (i := 558) (by decide +kernel)), List.mem_append_right _ (List.mem_of_getElem? (i := 6) (by decide +kernel)), List.mem_append_right _ (List.mem_of_getElem? (i := 330) (by decide +kernel)), ⟨by decide +kernel, by decide +kernel⟩, by decide +kernel⟩, List.mem_append_right _ (List.mem_of_getElem? (i := 328) (by decide +kernel)), List.mem_append_right _ (List.mem_of_getElem? (i := 329) (by decide +kernel)), TX4, 4, rfl⟩
theorem ck_X5_131 : CK RX5 131 mX5_takePart 3 5 := ⟨⟨List.mem_append_right _ (List.mem_of_getElem? (i := 585) (by decide +kernel)), List.mem_append_right _ (List.mem_of_getElem? (i := 3) (by decide +kernel)), List.mem_append_right _ (List.mem_of_getElem? (i := 588) (by decide +kernel)), ⟨by decide +kernel, by decide +kernel⟩, by decide +kernel⟩, List.mem_append_right _ (List.mem_of_getElem? (i := 586) (by decide +kernel)), List.mem_append_right _ (List.mem_of_getElem? (i := 587) (by decide +kernel)), TX5, 19, rfl⟩
theorem ck_X6_125 : CK RX6 125 mX2_copyFrom 1 2 := ⟨⟨List.mem_append_right _ (List.mem_of_getElem? (i := 413) (by decide +kernel)), List.mem_append_right _ (List.mem_of_getElem? (i := 2) (by decide +kernel)), List.mem_append_right _ (List.mem_of_getElem? (i := 416) (by decide +kernel)), ⟨by decide +kernel, by decide +kernel⟩, by decide +kernel⟩, List.mem_append_right _ (List.mem_of_getElem? (i := 414) (by decide +kernel)), List.mem_append_right _ (List.mem_of_getElem? (i := 415) (by decide +kernel)), TX2, 10, rfl⟩
theorem ck_X6_116 : CK RX6 116 mX2_passSlots 1 2 := ⟨⟨List.mem_append_right _ (List.mem_of_getElem? (i := 534) (by decide +kernel)), List.mem_append_right _ (List.mem_of_getElem? (i := 2) (by decide +kernel)), List.mem_append_right _ (List.mem_of_getElem? (i := 537) (by decide +kernel)), ⟨by decide +kernel, by decide +kernel⟩, by decide +kernel⟩, List.mem_append_right _ (List.mem_of_getElem? (i := 535) (by decide +kernel)), List.mem_append_right _ (List.mem_of_getElem? (i := 536) (by decide +kernel)), TX2, 10, rfl⟩
theorem ck_X6_113 : CK RX6 113 mX2_totalOf 1 2 := ⟨⟨List.mem_append_right _ (List.mem_of_getElem? (i := 526) (by decide +kernel)), List.mem_append_right _ (List.mem_of_getElem? (i := 2) (by decide +kernel)), List.mem_append_right _ (List.mem_of_getElem? (i := 529) (by decide +kernel)), ⟨by decide +kernel, by decide +kernel⟩, by decide +kernel⟩, List.mem_append_right _ (List.mem_of_getElem? (i := 527) (by decide +kernel)), List.mem_append_right _ (List.mem_of_getElem? (i := 528) (by decide +kernel)), TX2, 10, rfl⟩
theorem ck_X6_197 : CK RX6 197 mX6_mostSentInTrial 0 6 := ⟨⟨List.mem_append_right _ (List.mem_of_getElem? (i := 658) (by decide +kernel)), List.mem_append_right _ (List.mem_of_getElem? (i := 1) (by decide +kernel)), List.mem_append_right _ (List.mem_of_getElem? (i := 661) (by decide +kernel)), ⟨by decide +kernel, by decide +kernel⟩, by decide +kernel⟩, List.mem_append_right _ (List.mem_of_getElem? (i := 660) (by decide +kernel)), List.mem_append_left _ (List.mem_of_getElem? (i := 4) (by decide +kernel)), TX6, 8, rfl⟩
theorem ck_X6_200 : CK RX6 200 mX6_leastSentInTrial 0 6 := ⟨⟨List.mem_append_right _ (List.mem_of_getElem? (i := 667) (by decide +kernel)), List.mem_append_right _ (List.mem_of_getElem? (i := 1) (by decide +kernel)), List.mem_append_right _ (List.mem_of_getElem? (i := 670) (by decide +kernel)), ⟨by decide +kernel, by decide +kernel⟩, by decide +kernel⟩, List.mem_append_right _ (List.mem_of_getElem? (i := 669) (by decide +kernel)), List.mem_append_left _ (List.mem_of_getElem? (i := 6) (by decide +kernel)), TX6, 8, rfl⟩
theorem ck_X6_104 : CK RX6 104 mX2_pairsOf 1 2 := ⟨⟨List.mem_append_right _ (List.mem_of_getElem? (i := 509) (by decide +kernel)), List.mem_append_right _ (List.mem_of_getElem? (i := 2) (by decide +kernel)), List.mem_append_right _ (List.mem_of_getElem? (i := 512) (by decide +kernel)), ⟨by decide +kernel, by decide +kernel⟩, by decide +kernel⟩, List.mem_append_right _ (List.mem_of_getElem? (i := 510) (by decide +kernel)), List.mem_append_right _ (List.mem_of_getElem? (i := 511) (by decide +kernel)), TX2, 10, rfl⟩
theorem ck_X6_129 : CK RX6 129 mX6_isStation 1 6 := ⟨⟨List.mem_append_right _ (List.mem_of_getElem? (i := 488) (by decide +kernel)), List.mem_append_right _ (List.mem_of_getElem? (i := 1) (by decide +kernel)), List.mem_append_right _ (List.mem_of_getElem? (i := 491) (by decide +kernel)), ⟨by decide +kernel, by decide +kernel⟩, by decide +kernel⟩, List.mem_append_right _ (List.mem_of_getElem? (i := 490) (by decide +kernel)), List.mem_append_left _ (List.mem_of_getElem? (i := 2) (by decide +kernel)), TX6, 8, rfl⟩
theorem cs_X6_190 : CS RX6 190 mX6_drawnNumber 3 := ⟨⟨List.mem_append_right _ (List.mem_of_getElem? (i := 649) (by decide +kernel)), List.mem_append_right _ (List.mem_of_getElem? (i := 1) (by decide +kernel)), List.mem_append_right _ (List.mem_of_getElem? (i := 408) (by decide +kernel)), ⟨by decide +kernel, by decide +kernel⟩, by decide +kernel⟩, List.mem_append_right _ (List.mem_of_getElem? (i := 407) (by decide +kernel))⟩
theorem ck_X6_85 : CK RX6 85 mX6_remember 0 6 := ⟨⟨List.mem_append_right _ (List.mem_of_getElem? (i := 493) (by decide +kernel)), List.mem_append_right _ (List.mem_of_getElem? (i := 1) (by decide +kernel)), List.mem_append_right _ (List.mem_of_getElem? (i := 496) (by decide +kernel)), ⟨by decide +kernel, by decide +kernel⟩, by decide +kernel⟩, List.mem_append_right _ (List.mem_of_getElem? (i := 495) (by decide +kernel)), List.mem_append_left _ (List.mem_of_getElem? (i := 3) (by decide +kernel)), TX6, 8, rfl⟩
theorem ck_X6_56 : CK RX6 56 mX3_firstFault 1 3 := ⟨⟨List.mem_append_right _ (List.mem_of_getElem? (i := 311) (by decide +kernel)), List.mem_append_right _ (List.mem_of_getElem? (i := 7) (by decide +kernel)), List.mem_append_right _ (List.mem_of_getElem? (i := 314) (by decide +kernel)), ⟨by decide +kernel, by decide +kernel⟩, by decide +kernel⟩, List.mem_append_right _ (List.mem_of_getElem? (i := 312) (by decide +kernel)), List.mem_append_right _ (List.mem_of_getElem? (i := 313) (by decide +kernel)), TX3, 5, rfl⟩
theorem ck_X6_63 : CK RX6 63 mX6_isPair 2 6 := ⟨⟨List.mem_append_right _ (List.mem_of_getElem? (i := 484) (by decide +kernel)), List.mem_append_right _ (List.mem_of_getElem? (i := 1) (by decide +kernel)), List.mem_append_right _ (List.mem_of_getElem? (i := 487) (by decide +kernel)), ⟨by decide +kernel, by decide +kernel⟩, by decide +kernel⟩, List.mem_append_right _ (List.mem_of_getElem? (i := 486) (by decide +kernel)), List.mem_append_left _ (List.mem_of_getElem? (i := 1) (by decide +kernel)), TX6, 8, rfl⟩
theorem ck_X6_67 : CK RX6 67 mX2_hears 2 2 := ⟨⟨List.mem_append_right _ (List.mem_of_getElem? (i := 492) (by decide +kernel)), List.mem_append_right _ (List.mem_of_getElem? (i := 2) (by decide +kernel)), List.mem_append_right _ (List.mem_of_getElem? (i := 381) (by decide +kernel)), ⟨by decide +kernel, by decide +kernel⟩, by decide +kernel⟩, List.mem_append_right _ (List.mem_of_getElem? (i := 379) (by decide +kernel)), List.mem_append_right _ (List.mem_of_getElem? (i := 380) (by decide +kernel)), TX2, 10, rfl⟩
theorem ck_X6_96 : CK RX6 96 mX0_hasOneTo 1 0 := ⟨⟨List.mem_append_right _ (List.mem_of_getElem? (i := 504) (by decide +kernel)), List.mem_append_right _ (List.mem_of_getElem? (i := 4) (by decide +kernel)), List.mem_append_right _ (List.mem_of_getElem? (i := 507) (by decide +kernel)), ⟨by decide +kernel, by decide +kernel⟩, by decide +kernel⟩, List.mem_append_right _ (List.mem_of_getElem? (i := 505) (by decide +kernel)), List.mem_append_right _ (List.mem_of_getElem? (i := 506) (by decide +kernel)), TX0, 3, rfl⟩
theorem ck_X6_100 : CK RX6 100 mX2_join 3 2 := ⟨⟨List.mem_append_right _ (List.mem_of_getElem? (i := 508) (by decide +kernel)), List.mem_append_right _ (List.mem_of_getElem? (i := 2) (by decide +kernel)), List.mem_append_right _ (List.mem_of_getElem? (i := 373) (by decide +kernel)), ⟨by decide +kernel, by decide +kernel⟩, by decide +kernel⟩, List.mem_append_right _ (List.mem_of_getElem? (i := 371) (by decide +kernel)), List.mem_append_right _ (List.mem_of_getElem? (i := 372) (by decide +kernel)), TX2, 10, rfl⟩
theorem ck_X6_52 : CK RX6 52 mX6_takeText 0 6 := ⟨⟨List.mem_append_right _ (List.mem_of_getElem? (i := 307) (by decide +kernel)), List.mem_append_right _ (List.mem_of_getElem? (i := 1) (by decide +kernel)), List.mem_append_right _ (List.mem_of_getElem? (i := 310) (by decide +kernel)), ⟨by decide +kernel, by decide +kernel⟩, by decide +kernel⟩, List.mem_append_right _ (List.mem_of_getElem? (i := 309) (by decide +kernel)), List.mem_append_left _ (List.mem_of_getElem? (i := 0) (by decide +kernel)), TX6, 8, rfl⟩
theorem ck_X6_223 : CK RX6 223 mX6_sentInTrial 1 6 := ⟨⟨List.mem_append_right _ (List.mem_of_getElem? (i := 662) (by decide +kernel)), List.mem_append_right _ (List.mem_of_getElem? (i := 1) (by decide +kernel)), List.mem_append_right _ (List.mem_of_getElem? (i := 665) (by decide +kernel)), ⟨by decide +kernel, by decide +kernel⟩, by decide +kernel⟩, List.mem_append_right _ (List.mem_of_getElem? (i := 664) (by decide +kernel)), List.mem_append_left _ (List.mem_of_getElem? (i := 5) (by decide +kernel)), TX6, 8, rfl⟩
theorem ck_X6_88 : CK RX6 88 mX0_add 2 0 := ⟨⟨List.mem_append_right _ (List.mem_of_getElem? (i := 498) (by decide +kernel)), List.mem_append_right _ (List.mem_of_getElem? (i := 4) (by decide +kernel)), List.mem_append_right _ (List.mem_of_getElem? (i := 385) (by decide +kernel)), ⟨by decide +kernel, by decide +kernel⟩, by decide +kernel⟩, List.mem_append_right _ (List.mem_of_getElem? (i := 383) (by decide +kernel)), List.mem_append_right _ (List.mem_of_getElem? (i := 384) (by decide +kernel)), TX0, 3, rfl⟩
theorem ck_X6_92 : CK RX6 92 mX2_drawWait 1 2 := ⟨⟨List.mem_append_right _ (List.mem_of_getElem? (i := 499) (by decide +kernel)), List.mem_append_right _ (List.mem_of_getElem? (i := 2) (by decide +kernel)), List.mem_append_right _ (List.mem_of_getElem? (i := 405) (by decide +kernel)), ⟨by decide +kernel, by decide +kernel⟩, by decide +kernel⟩, List.mem_append_right _ (List.mem_of_getElem? (i := 403) (by decide +kernel)), List.mem_append_right _ (List.mem_of_getElem? (i := 404) (by decide +kernel)), TX2, 10, rfl⟩
theorem ck_X6_171 : CK RX6 171 mX2_isAsked 1 2 := ⟨⟨List.mem_append_right _ (List.mem_of_getElem? (i := 631) (by decide +kernel)), List.mem_append_right _ (List.mem_of_getElem? (i := 2) (by decide +kernel)), List.mem_append_right _ (List.mem_of_getElem? (i := 553) (by decide +kernel)), ⟨by decide +kernel, by decide +kernel⟩, by decide +kernel⟩, List.mem_append_right _ (List.mem_of_getElem? (i := 551) (by decide +kernel)), List.mem_append_right _ (List.mem_of_getElem? (i := 552) (by decide +kernel)), TX2, 10, rfl⟩
theorem ck_X6_181 : CK RX6 181 mX1_read 2 1 := ⟨⟨List.mem_append_right _ (List.mem_of_getElem? (i := 636) (by decide +kernel)), List.mem_append_right _ (List.mem_of_getElem? (i := 5) (by decide +kernel)), List.mem_append_right _ (List.mem_of_getElem? (i := 639) (by decide +kernel)), ⟨by decide +kernel, by decide +kernel⟩, by decide +kernel⟩, List.mem_append_right _ (List.mem_of_getElem? (i := 637) (by decide +kernel)), List.mem_append_right _ (List.mem_of_getElem? (i := 638) (by decide +kernel)), TX1, 2, rfl⟩
theorem ck_X6_187 : CK RX6 187 mX2_nearness 2 2 := ⟨⟨List.mem_append_right _ (List.mem_of_getElem? (i := 644) (by decide +kernel)), List.mem_append_right _ (List.mem_of_getElem? (i := 2) (by decide +kernel)), List.mem_append_right _ (List.mem_of_getElem? (i := 516) (by decide +kernel)), ⟨by decide +kernel, by decide +kernel⟩, by decide +kernel⟩, List.mem_append_right _ (List.mem_of_getElem? (i := 514) (by decide +kernel)), List.mem_append_right _ (List.mem_of_getElem? (i := 515) (by decide +kernel)), TX2, 10, rfl⟩
theorem ck_X6_156 : CK RX6 156 mX2_kindToSend 1 2 := ⟨⟨List.mem_append_right _ (List.mem_of_getElem? (i := 626) (by decide +kernel)), List.mem_append_right _ (List.mem_of_getElem? (i := 2) (by decide +kernel)), List.mem_append_right _ (List.mem_of_getElem? (i := 545) (by decide +kernel)), ⟨by decide +kernel, by decide +kernel⟩, by decide +kernel⟩, List.mem_append_right _ (List.mem_of_getElem? (i := 543) (by decide +kernel)), List.mem_append_right _ (List.mem_of_getElem? (i := 544) (by decide +kernel)), TX2, 10, rfl⟩
theorem ck_X6_215 : CK RX6 215 mX2_drawFirstWaits 0 2 := ⟨⟨List.mem_append_right _ (List.mem_of_getElem? (i := 398) (by decide +kernel)), List.mem_append_right _ (List.mem_of_getElem? (i := 2) (by decide +kernel)), List.mem_append_right _ (List.mem_of_getElem? (i := 401) (by decide +kernel)), ⟨by decide +kernel, by decide +kernel⟩, by decide +kernel⟩, List.mem_append_right _ (List.mem_of_getElem? (i := 399) (by decide +kernel)), List.mem_append_right _ (List.mem_of_getElem? (i := 400) (by decide +kernel)), TX2, 10, rfl⟩
theorem cs_X7_52 : CS RX7 52 mX7_at 2 := ⟨⟨List.mem_append_right _ (List.mem_of_getElem? (i := 697) (by decide +kernel)), List.mem_append_right _ (List.mem_of_getElem? (i := 14) (by decide +kernel)), List.mem_append_right _ (List.mem_of_getElem? (i := 699) (by decide +kernel)), ⟨by decide +kernel, by decide +kernel⟩, by decide +kernel⟩, List.mem_append_right _ (List.mem_of_getElem? (i := 698) (by decide +kernel))⟩
theorem cs_X7_94 : CS RX7 94 mX7_isIn 3 := ⟨⟨List.mem_append_right _ (List.mem_of_getElem? (i := 807) (by decide +kernel)), List.mem_append_right _ (List.mem_of_getElem? (i := 14) (by decide +kernel)), List.mem_append_right _ (List.mem_of_getElem? (i := 809) (by decide +kernel)), ⟨by decide +kernel, by decide +kernel⟩, by decide +kernel⟩, List.mem_append_right _ (List.mem_of_getElem? (i := 808) (by decide +kernel))⟩
theorem ck_X7_71 : CK RX7 71 mX7_copies 2 7 := ⟨⟨List.mem_append_right _ (List.mem_of_getElem? (i := 704) (by decide +kernel)), List.mem_append_right _ (List.mem_of_getElem? (i := 14) (by decide +kernel)), List.mem_append_right _ (List.mem_of_getElem? (i := 707) (by decide +kernel)), ⟨by decide +kernel, by decide +kernel⟩, by decide +kernel⟩, List.mem_append_right _ (List.mem_of_getElem? (i := 706) (by decide +kernel)), List.mem_append_left _ (List.mem_of_getElem? (i := 11) (by decide +kernel)), TX7, 18, rfl⟩
theorem ck_X7_196 : CK RX7 196 mX7_goes 1 7 := ⟨⟨List.mem_append_right _ (List.mem_of_getElem? (i := 881) (by decide +kernel)), List.mem_append_right _ (List.mem_of_getElem? (i := 14) (by decide +kernel)), List.mem_append_right _ (List.mem_of_getElem? (i := 884) (by decide +kernel)), ⟨by decide +kernel, by decide +kernel⟩, by decide +kernel⟩, List.mem_append_right _ (List.mem_of_getElem? (i := 883) (by decide +kernel)), List.mem_append_left _ (List.mem_of_getElem? (i := 30) (by decide +kernel)), TX7, 18, rfl⟩
theorem ck_X7_193 : CK RX7 193 mX7_all 2 7 := ⟨⟨List.mem_append_right _ (List.mem_of_getElem? (i := 877) (by decide +kernel)), List.mem_append_right _ (List.mem_of_getElem? (i := 14) (by decide +kernel)), List.mem_append_right _ (List.mem_of_getElem? (i := 880) (by decide +kernel)), ⟨by decide +kernel, by decide +kernel⟩, by decide +kernel⟩, List.mem_append_right _ (List.mem_of_getElem? (i := 879) (by decide +kernel)), List.mem_append_left _ (List.mem_of_getElem? (i := 29) (by decide +kernel)), TX7, 18, rfl⟩
theorem ck_X7_175 : CK RX7 175 mX7_isStation 1 7 := ⟨⟨List.mem_append_right _ (List.mem_of_getElem? (i := 845) (by decide +kernel)), List.mem_append_right _ (List.mem_of_getElem? (i := 14) (by decide +kernel)), List.mem_append_right _ (List.mem_of_getElem? (i := 848) (by decide +kernel)), ⟨by decide +kernel, by decide +kernel⟩, by decide +kernel⟩, List.mem_append_right _ (List.mem_of_getElem? (i := 847) (by decide +kernel)), List.mem_append_left _ (List.mem_of_getElem? (i := 24) (by decide +kernel)), TX7, 18, rfl⟩
theorem ck_X7_138 : CK RX7 138 mX7_waits 2 7 := ⟨⟨List.mem_append_right _ (List.mem_of_getElem? (i := 712) (by decide +kernel)), List.mem_append_right _ (List.mem_of_getElem? (i := 14) (by decide +kernel)), List.mem_append_right _ (List.mem_of_getElem? (i := 715) (by decide +kernel)), ⟨by decide +kernel, by decide +kernel⟩, by decide +kernel⟩, List.mem_append_right _ (List.mem_of_getElem? (i := 714) (by decide +kernel)), List.mem_append_left _ (List.mem_of_getElem? (i := 13) (by decide +kernel)), TX7, 18, rfl⟩
theorem ck_X7_190 : CK RX7 190 mX7_pairs 1 7 := ⟨⟨List.mem_append_right _ (List.mem_of_getElem? (i := 861) (by decide +kernel)), List.mem_append_right _ (List.mem_of_getElem? (i := 14) (by decide +kernel)), List.mem_append_right _ (List.mem_of_getElem? (i := 864) (by decide +kernel)), ⟨by decide +kernel, by decide +kernel⟩, by decide +kernel⟩, List.mem_append_right _ (List.mem_of_getElem? (i := 863) (by decide +kernel)), List.mem_append_left _ (List.mem_of_getElem? (i := 27) (by decide +kernel)), TX7, 18, rfl⟩
theorem ck_X7_134 : CK RX7 134 mX7_drawn 3 7 := ⟨⟨List.mem_append_right _ (List.mem_of_getElem? (i := 716) (by decide +kernel)), List.mem_append_right _ (List.mem_of_getElem? (i := 14) (by decide +kernel)), List.mem_append_right _ (List.mem_of_getElem? (i := 719) (by decide +kernel)), ⟨by decide +kernel, by decide +kernel⟩, by decide +kernel⟩, List.mem_append_right _ (List.mem_of_getElem? (i := 718) (by decide +kernel)), List.mem_append_left _ (List.mem_of_getElem? (i := 14) (by decide +kernel)), TX7, 18, rfl⟩
theorem ck_X7_181 : CK RX7 181 mX7_keeps 0 7 := ⟨⟨List.mem_append_right _ (List.mem_of_getElem? (i := 849) (by decide +kernel)), List.mem_append_right _ (List.mem_of_getElem? (i := 14) (by decide +kernel)), List.mem_append_right _ (List.mem_of_getElem? (i := 852) (by decide +kernel)), ⟨by decide +kernel, by decide +kernel⟩, by decide +kernel⟩, List.mem_append_right _ (List.mem_of_getElem? (i := 851) (by decide +kernel)), List.mem_append_left _ (List.mem_of_getElem? (i := 25) (by decide +kernel)), TX7, 18, rfl⟩
theorem ck_X7_141 : CK RX7 141 mX7_overs 2 7 := ⟨⟨List.mem_append_right _ (List.mem_of_getElem? (i := 916) (by decide +kernel)), List.mem_append_right _ (List.mem_of_getElem? (i := 14) (by decide +kernel)), List.mem_append_right _ (List.mem_of_getElem? (i := 919) (by decide +kernel)), ⟨by decide +kernel, by decide +kernel⟩, by decide +kernel⟩, List.mem_append_right _ (List.mem_of_getElem? (i := 918) (by decide +kernel)), List.mem_append_left _ (List.mem_of_getElem? (i := 38) (by decide +kernel)), TX7, 18, rfl⟩
theorem ck_X7_78 : CK RX7 78 mX7_comes 2 7 := ⟨⟨List.mem_append_right _ (List.mem_of_getElem? (i := 708) (by decide +kernel)), List.mem_append_right _ (List.mem_of_getElem? (i := 14) (by decide +kernel)), List.mem_append_right _ (List.mem_of_getElem? (i := 711) (by decide +kernel)), ⟨by decide +kernel, by decide +kernel⟩, by decide +kernel⟩, List.mem_append_right _ (List.mem_of_getElem? (i := 710) (by decide +kernel)), List.mem_append_left _ (List.mem_of_getElem? (i := 12) (by decide +kernel)), TX7, 18, rfl⟩
theorem ck_X7_122 : CK RX7 122 mX7_reads 0 7 := ⟨⟨List.mem_append_right _ (List.mem_of_getElem? (i := 791) (by decide +kernel)), List.mem_append_right _ (List.mem_of_getElem? (i := 14) (by decide +kernel)), List.mem_append_right _ (List.mem_of_getElem? (i := 794) (by decide +kernel)), ⟨by decide +kernel, by decide +kernel⟩, by decide +kernel⟩, List.mem_append_right _ (List.mem_of_getElem? (i := 793) (by decide +kernel)), List.mem_append_left _ (List.mem_of_getElem? (i := 15) (by decide +kernel)), TX7, 18, rfl⟩
theorem cs_X7_105 : CS RX7 105 mX7_has 2 := ⟨⟨List.mem_append_right _ (List.mem_of_getElem? (i := 822) (by decide +kernel)), List.mem_append_right _ (List.mem_of_getElem? (i := 14) (by decide +kernel)), List.mem_append_right _ (List.mem_of_getElem? (i := 824) (by decide +kernel)), ⟨by decide +kernel, by decide +kernel⟩, by decide +kernel⟩, List.mem_append_right _ (List.mem_of_getElem? (i := 823) (by decide +kernel))⟩
theorem cs_X7_153 : CS RX7 153 mX7_bits 1 := ⟨⟨List.mem_append_right _ (List.mem_of_getElem? (i := 905) (by decide +kernel)), List.mem_append_right _ (List.mem_of_getElem? (i := 14) (by decide +kernel)), List.mem_append_right _ (List.mem_of_getElem? (i := 907) (by decide +kernel)), ⟨by decide +kernel, by decide +kernel⟩, by decide +kernel⟩, List.mem_append_right _ (List.mem_of_getElem? (i := 906) (by decide +kernel))⟩
theorem ck_X7_156 : CK RX7 156 mX7_takesOwn 4 7 := ⟨⟨List.mem_append_right _ (List.mem_of_getElem? (i := 908) (by decide +kernel)), List.mem_append_right _ (List.mem_of_getElem? (i := 14) (by decide +kernel)), List.mem_append_right _ (List.mem_of_getElem? (i := 911) (by decide +kernel)), ⟨by decide +kernel, by decide +kernel⟩, by decide +kernel⟩, List.mem_append_right _ (List.mem_of_getElem? (i := 910) (by decide +kernel)), List.mem_append_left _ (List.mem_of_getElem? (i := 36) (by decide +kernel)), TX7, 18, rfl⟩
theorem ck_X7_160 : CK RX7 160 mX7_overhears 4 7 := ⟨⟨List.mem_append_right _ (List.mem_of_getElem? (i := 920) (by decide +kernel)), List.mem_append_right _ (List.mem_of_getElem? (i := 14) (by decide +kernel)), List.mem_append_right _ (List.mem_of_getElem? (i := 923) (by decide +kernel)), ⟨by decide +kernel, by decide +kernel⟩, by decide +kernel⟩, List.mem_append_right _ (List.mem_of_getElem? (i := 922) (by decide +kernel)), List.mem_append_left _ (List.mem_of_getElem? (i := 39) (by decide +kernel)), TX7, 18, rfl⟩
theorem ck_X7_163 : CK RX7 163 mX7_fails 2 7 := ⟨⟨List.mem_append_right _ (List.mem_of_getElem? (i := 924) (by decide +kernel)), List.mem_append_right _ (List.mem_of_getElem? (i := 14) (by decide +kernel)), List.mem_append_right _ (List.mem_of_getElem? (i := 927) (by decide +kernel)), ⟨by decide +kernel, by decide +kernel⟩, by decide +kernel⟩, List.mem_append_right _ (List.mem_of_getElem? (i := 926) (by decide +kernel)), List.mem_append_left _ (List.mem_of_getElem? (i := 40) (by decide +kernel)), TX7, 18, rfl⟩
theorem ck_X7_166 : CK RX7 166 mX7_says 3 7 := ⟨⟨List.mem_append_right _ (List.mem_of_getElem? (i := 885) (by decide +kernel)), List.mem_append_right _ (List.mem_of_getElem? (i := 14) (by decide +kernel)), List.mem_append_right _ (List.mem_of_getElem? (i := 888) (by decide +kernel)), ⟨by decide +kernel, by decide +kernel⟩, by decide +kernel⟩, List.mem_append_right _ (List.mem_of_getElem? (i := 887) (by decide +kernel)), List.mem_append_left _ (List.mem_of_getElem? (i := 31) (by decide +kernel)), TX7, 18, rfl⟩
theorem ck_X7_169 : CK RX7 169 mX7_sends 3 7 := ⟨⟨List.mem_append_right _ (List.mem_of_getElem? (i := 897) (by decide +kernel)), List.mem_append_right _ (List.mem_of_getElem? (i := 14) (by decide +kernel)), List.mem_append_right _ (List.mem_of_getElem? (i := 900) (by decide +kernel)), ⟨by decide +kernel, by decide +kernel⟩, by decide +kernel⟩, List.mem_append_right _ (List.mem_of_getElem? (i := 899) (by decide +kernel)), List.mem_append_left _ (List.mem_of_getElem? (i := 34) (by decide +kernel)), TX7, 18, rfl⟩
theorem ck_X7_172 : CK RX7 172 mX7_gets 4 7 := ⟨⟨List.mem_append_right _ (List.mem_of_getElem? (i := 901) (by decide +kernel)), List.mem_append_right _ (List.mem_of_getElem? (i := 14) (by decide +kernel)), List.mem_append_right _ (List.mem_of_getElem? (i := 904) (by decide +kernel)), ⟨by decide +kernel, by decide +kernel⟩, by decide +kernel⟩, List.mem_append_right _ (List.mem_of_getElem? (i := 903) (by decide +kernel)), List.mem_append_left _ (List.mem_of_getElem? (i := 35) (by decide +kernel)), TX7, 18, rfl⟩
theorem ck_X7_178 : CK RX7 178 mX7_areTwo 2 7 := ⟨⟨List.mem_append_right _ (List.mem_of_getElem? (i := 841) (by decide +kernel)), List.mem_append_right _ (List.mem_of_getElem? (i := 14) (by decide +kernel)), List.mem_append_right _ (List.mem_of_getElem? (i := 844) (by decide +kernel)), ⟨by decide +kernel, by decide +kernel⟩, by decide +kernel⟩, List.mem_append_right _ (List.mem_of_getElem? (i := 843) (by decide +kernel)), List.mem_append_left _ (List.mem_of_getElem? (i := 23) (by decide +kernel)), TX7, 18, rfl⟩
theorem ck_X7_187 : CK RX7 187 mX7_hasFor 2 7 := ⟨⟨List.mem_append_right _ (List.mem_of_getElem? (i := 857) (by decide +kernel)), List.mem_append_right _ (List.mem_of_getElem? (i := 14) (by decide +kernel)), List.mem_append_right _ (List.mem_of_getElem? (i := 860) (by decide +kernel)), ⟨by decide +kernel, by decide +kernel⟩, by decide +kernel⟩, List.mem_append_right _ (List.mem_of_getElem? (i := 859) (by decide +kernel)), List.mem_append_left _ (List.mem_of_getElem? (i := 26) (by decide +kernel)), TX7, 18, rfl⟩
theorem ck_X7_34 : CK RX7 34 mX7_clears 0 7 := ⟨⟨List.mem_append_right _ (List.mem_of_getElem? (i := 685) (by decide +kernel)), List.mem_append_right _ (List.mem_of_getElem? (i := 14) (by decide +kernel)), List.mem_append_right _ (List.mem_of_getElem? (i := 688) (by decide +kernel)), ⟨by decide +kernel, by decide +kernel⟩, by decide +kernel⟩, List.mem_append_right _ (List.mem_of_getElem? (i := 687) (by decide +kernel)), List.mem_append_left _ (List.mem_of_getElem? (i := 7) (by decide +kernel)), TX7, 18, rfl⟩
theorem ck_X7_41 : CK RX7 41 mX7_hears 3 7 := ⟨⟨List.mem_append_right _ (List.mem_of_getElem? (i := 689) (by decide +kernel)), List.mem_append_right _ (List.mem_of_getElem? (i := 14) (by decide +kernel)), List.mem_append_right _ (List.mem_of_getElem? (i := 692) (by decide +kernel)), ⟨by decide +kernel, by decide +kernel⟩, by decide +kernel⟩, List.mem_append_right _ (List.mem_of_getElem? (i := 691) (by decide +kernel)), List.mem_append_left _ (List.mem_of_getElem? (i := 8) (by decide +kernel)), TX7, 18, rfl⟩
theorem ck_X7_45 : CK RX7 45 mX7_adds 4 7 := ⟨⟨List.mem_append_right _ (List.mem_of_getElem? (i := 693) (by decide +kernel)), List.mem_append_right _ (List.mem_of_getElem? (i := 14) (by decide +kernel)), List.mem_append_right _ (List.mem_of_getElem? (i := 696) (by decide +kernel)), ⟨by decide +kernel, by decide +kernel⟩, by decide +kernel⟩, List.mem_append_right _ (List.mem_of_getElem? (i := 695) (by decide +kernel)), List.mem_append_left _ (List.mem_of_getElem? (i := 9) (by decide +kernel)), TX7, 18, rfl⟩
theorem ck_X7_49 : CK RX7 49 mX7_takes 0 7 := ⟨⟨List.mem_append_right _ (List.mem_of_getElem? (i := 700) (by decide +kernel)), List.mem_append_right _ (List.mem_of_getElem? (i := 14) (by decide +kernel)), List.mem_append_right _ (List.mem_of_getElem? (i := 703) (by decide +kernel)), ⟨by decide +kernel, by decide +kernel⟩, by decide +kernel⟩, List.mem_append_right _ (List.mem_of_getElem? (i := 702) (by decide +kernel)), List.mem_append_left _ (List.mem_of_getElem? (i := 10) (by decide +kernel)), TX7, 18, rfl⟩
theorem ck_X7_144 : CK RX7 144 mX7_isFree 3 7 := ⟨⟨List.mem_append_right _ (List.mem_of_getElem? (i := 893) (by decide +kernel)), List.mem_append_right _ (List.mem_of_getElem? (i := 14) (by decide +kernel)), List.mem_append_right _ (List.mem_of_getElem? (i := 896) (by decide +kernel)), ⟨by decide +kernel, by decide +kernel⟩, by decide +kernel⟩, List.mem_append_right _ (List.mem_of_getElem? (i := 895) (by decide +kernel)), List.mem_append_left _ (List.mem_of_getElem? (i := 33) (by decide +kernel)), TX7, 18, rfl⟩
theorem ck_X7_90 : CK RX7 90 mX7_letterAt 1 7 := ⟨⟨List.mem_append_right _ (List.mem_of_getElem? (i := 803) (by decide +kernel)), List.mem_append_right _ (List.mem_of_getElem? (i := 14) (by decide +kernel)), List.mem_append_right _ (List.mem_of_getElem? (i := 806) (by decide +kernel)), ⟨by decide +kernel, by decide +kernel⟩, by decide +kernel⟩, List.mem_append_right _ (List.mem_of_getElem? (i := 805) (by decide +kernel)), List.mem_append_left _ (List.mem_of_getElem? (i := 18) (by decide +kernel)), TX7, 18, rfl⟩
theorem ck_X7_98 : CK RX7 98 mX7_number 3 7 := ⟨⟨List.mem_append_right _ (List.mem_of_getElem? (i := 799) (by decide +kernel)), List.mem_append_right _ (List.mem_of_getElem? (i := 14) (by decide +kernel)), List.mem_append_right _ (List.mem_of_getElem? (i := 802) (by decide +kernel)), ⟨by decide +kernel, by decide +kernel⟩, by decide +kernel⟩, List.mem_append_right _ (List.mem_of_getElem? (i := 801) (by decide +kernel)), List.mem_append_left _ (List.mem_of_getElem? (i := 17) (by decide +kernel)), TX7, 18, rfl⟩
theorem ck_X7_184 : CK RX7 184 mX7_pairOf 2 7 := ⟨⟨List.mem_append_right _ (List.mem_of_getElem? (i := 865) (by decide +kernel)), List.mem_append_right _ (List.mem_of_getElem? (i := 14) (by decide +kernel)), List.mem_append_right _ (List.mem_of_getElem? (i := 868) (by decide +kernel)), ⟨by decide +kernel, by decide +kernel⟩, by decide +kernel⟩, List.mem_append_right _ (List.mem_of_getElem? (i := 867) (by decide +kernel)), List.mem_append_left _ (List.mem_of_getElem? (i := 28) (by decide +kernel)), TX7, 18, rfl⟩
theorem ck_X7_118 : CK RX7 118 mX7_readsItem 3 7 := ⟨⟨List.mem_append_right _ (List.mem_of_getElem? (i := 795) (by decide +kernel)), List.mem_append_right _ (List.mem_of_getElem? (i := 14) (by decide +kernel)), List.mem_append_right _ (List.mem_of_getElem? (i := 798) (by decide +kernel)), ⟨by decide +kernel, by decide +kernel⟩, by decide +kernel⟩, List.mem_append_right _ (List.mem_of_getElem? (i := 797) (by decide +kernel)), List.mem_append_left _ (List.mem_of_getElem? (i := 16) (by decide +kernel)), TX7, 18, rfl⟩
theorem ck_X7_108 : CK RX7 108 mX7_readsPair 1 7 := ⟨⟨List.mem_append_right _ (List.mem_of_getElem? (i := 810) (by decide +kernel)), List.mem_append_right _ (List.mem_of_getElem? (i := 14) (by decide +kernel)), List.mem_append_right _ (List.mem_of_getElem? (i := 813) (by decide +kernel)), ⟨by decide +kernel, by decide +kernel⟩, by decide +kernel⟩, List.mem_append_right _ (List.mem_of_getElem? (i := 812) (by decide +kernel)), List.mem_append_left _ (List.mem_of_getElem? (i := 19) (by decide +kernel)), TX7, 18, rfl⟩
theorem ck_X7_112 : CK RX7 112 mX7_readsLetter 1 7 := ⟨⟨List.mem_append_right _ (List.mem_of_getElem? (i := 818) (by decide +kernel)), List.mem_append_right _ (List.mem_of_getElem? (i := 14) (by decide +kernel)), List.mem_append_right _ (List.mem_of_getElem? (i := 821) (by decide +kernel)), ⟨by decide +kernel, by decide +kernel⟩, by decide +kernel⟩, List.mem_append_right _ (List.mem_of_getElem? (i := 820) (by decide +kernel)), List.mem_append_left _ (List.mem_of_getElem? (i := 21) (by decide +kernel)), TX7, 18, rfl⟩
theorem ck_X7_115 : CK RX7 115 mX7_readsRules 3 7 := ⟨⟨List.mem_append_right _ (List.mem_of_getElem? (i := 825) (by decide +kernel)), List.mem_append_right _ (List.mem_of_getElem? (i := 14) (by decide +kernel)), List.mem_append_right _ (List.mem_of_getElem? (i := 828) (by decide +kernel)), ⟨by decide +kernel, by decide +kernel⟩, by decide +kernel⟩, List.mem_append_right _ (List.mem_of_getElem? (i := 827) (by decide +kernel)), List.mem_append_left _ (List.mem_of_getElem? (i := 22) (by decide +kernel)), TX7, 18, rfl⟩
theorem ck_X7_101 : CK RX7 101 mX7_more 2 7 := ⟨⟨List.mem_append_right _ (List.mem_of_getElem? (i := 814) (by decide +kernel)), List.mem_append_right _ (List.mem_of_getElem? (i := 14) (by decide +kernel)), List.mem_append_right _ (List.mem_of_getElem? (i := 817) (by decide +kernel)), ⟨by decide +kernel, by decide +kernel⟩, by decide +kernel⟩, List.mem_append_right _ (List.mem_of_getElem? (i := 816) (by decide +kernel)), List.mem_append_left _ (List.mem_of_getElem? (i := 20) (by decide +kernel)), TX7, 18, rfl⟩
theorem ck_X7_147 : CK RX7 147 mX7_mayBegin 3 7 := ⟨⟨List.mem_append_right _ (List.mem_of_getElem? (i := 889) (by decide +kernel)), List.mem_append_right _ (List.mem_of_getElem? (i := 14) (by decide +kernel)), List.mem_append_right _ (List.mem_of_getElem? (i := 892) (by decide +kernel)), ⟨by decide +kernel, by decide +kernel⟩, by decide +kernel⟩, List.mem_append_right _ (List.mem_of_getElem? (i := 891) (by decide +kernel)), List.mem_append_left _ (List.mem_of_getElem? (i := 32) (by decide +kernel)), TX7, 18, rfl⟩
theorem ck_X7_150 : CK RX7 150 mX7_sent 2 7 := ⟨⟨List.mem_append_right _ (List.mem_of_getElem? (i := 912) (by decide +kernel)), List.mem_append_right _ (List.mem_of_getElem? (i := 14) (by decide +kernel)), List.mem_append_right _ (List.mem_of_getElem? (i := 915) (by decide +kernel)), ⟨by decide +kernel, by decide +kernel⟩, by decide +kernel⟩, List.mem_append_right _ (List.mem_of_getElem? (i := 914) (by decide +kernel)), List.mem_append_left _ (List.mem_of_getElem? (i := 37) (by decide +kernel)), TX7, 18, rfl⟩
theorem nl_X6_218 : Cond.methodLink RX6 218 Lib.Math.min.name ∈ lw_tbl := List.mem_append_right _ (List.mem_of_getElem? (i := 497) (by decide +kernel))
theorem nl_X6_226 : Cond.methodLink RX6 226 Lib.Math.max.name ∈ lw_tbl := List.mem_append_right _ (List.mem_of_getElem? (i := 666) (by decide +kernel))
theorem nl_X0_22 : Cond.methodLink RX0 22 arraycopyName ∈ lw_tbl := List.mem_append_right _ (List.mem_of_getElem? (i := 428) (by decide +kernel))
theorem nl_X1_19 : Cond.methodLink RX1 19 arraycopyName ∈ lw_tbl := List.mem_append_right _ (List.mem_of_getElem? (i := 433) (by decide +kernel))
theorem nl_X2_50 : Cond.methodLink RX2 50 arraycopyName ∈ lw_tbl := List.mem_append_right _ (List.mem_of_getElem? (i := 417) (by decide +kernel))
theorem nl_X3_28 : Cond.methodLink RX3 28 Lib.Math.min.name ∈ lw_tbl := List.mem_append_right _ (List.mem_of_getElem? (i := 331) (by decide +kernel))
theorem nl_X5_125 : Cond.methodLink RX5 125 Lib.Math.max.name ∈ lw_tbl := List.mem_append_right _ (List.mem_of_getElem? (i := 597) (by decide +kernel))
theorem nl_X5_142 : Cond.methodLink RX5 142 Lib.Math.min.name ∈ lw_tbl := List.mem_append_right _ (List.mem_of_getElem? (i := 617) (by decide +kernel))
theorem nw_copy1 : Cond.native arraycopyName ∈ lw_tbl := List.mem_append_right _ (List.mem_of_getElem? (i := 419) (by decide +kernel))
theorem nw_copy2 : Cond.static arraycopyName ∈ lw_tbl := List.mem_append_right _ (List.mem_of_getElem? (i := 418) (by decide +kernel))
theorem nw_copy3 : Cond.initialized "java/lang/System" ∈ lw_tbl := List.mem_append_right _ (List.mem_of_getElem? (i := 13) (by decide +kernel))
theorem nw_max1 : Cond.static Lib.Math.max.name ∈ lw_tbl := List.mem_append_right _ (List.mem_of_getElem? (i := 598) (by decide +kernel))
theorem nw_max3 : Cond.code Lib.Math.max.name Lib.Math.max.code 2 (some .int) ∈ lw_tbl := List.mem_append_right _ (List.mem_of_getElem? (i := 599) (by decide +kernel))
theorem nw_min1 : Cond.static Lib.Math.min.name ∈ lw_tbl := List.mem_append_right _ (List.mem_of_getElem? (i := 332) (by decide +kernel))
theorem nw_min3 : Cond.code Lib.Math.min.name Lib.Math.min.code 2 (some .int) ∈ lw_tbl := List.mem_append_right _ (List.mem_of_getElem? (i := 333) (by decide +kernel))
theorem nw_math : Cond.initialized "java/lang/Math" ∈ lw_tbl := List.mem_append_right _ (List.mem_of_getElem? (i := 12) (by decide +kernel))
theorem nw_dn1 : Cond.initialized RX6 ∈ lw_tbl := List.mem_append_right _ (List.mem_of_getElem? (i := 1) (by decide +kernel))
theorem nw_dn2 : Cond.code yX6_drawnNumber cX6_drawnNumber 5 (some .int) ∈ lw_tbl := List.mem_append_right _ (List.mem_of_getElem? (i := 408) (by decide +kernel))
theorem nw_dn3 : Cond.static yX6_drawnNumber ∈ lw_tbl := List.mem_append_right _ (List.mem_of_getElem? (i := 407) (by decide +kernel))
theorem kc_J6_265 : Cond.constant RJ6 265 (1431655765) ∈ lw_tbl := List.mem_append_right _ (List.mem_of_getElem? (i := 570) (by decide +kernel))
theorem kc_J6_266 : Cond.constant RJ6 266 (858993459) ∈ lw_tbl := List.mem_append_right _ (List.mem_of_getElem? (i := 571) (by decide +kernel))
theorem kc_J6_267 : Cond.constant RJ6 267 (252645135) ∈ lw_tbl := List.mem_append_right _ (List.mem_of_getElem? (i := 572) (by decide +kernel))
theorem kc_X6_229 : Cond.constantLong RX6 229 (7919) ∈ lw_tbl := List.mem_append_right _ (List.mem_of_getElem? (i := 409) (by decide +kernel))
theorem kc_X6_231 : Cond.constantLong RX6 231 (6151) ∈ lw_tbl := List.mem_append_right _ (List.mem_of_getElem? (i := 410) (by decide +kernel))
theorem kc_X6_233 : Cond.constantLong RX6 233 (3571) ∈ lw_tbl := List.mem_append_right _ (List.mem_of_getElem? (i := 411) (by decide +kernel))
theorem kc_X6_235 : Cond.constantLong RX6 235 (65521) ∈ lw_tbl := List.mem_append_right _ (List.mem_of_getElem? (i := 412) (by decide +kernel))
theorem kc_X7_126 : Cond.constantLong RX7 126 (7919) ∈ lw_tbl := List.mem_append_right _ (List.mem_of_getElem? (i := 720) (by decide +kernel))
theorem kc_X7_128 : Cond.constantLong RX7 128 (6151) ∈ lw_tbl := List.mem_append_right _ (List.mem_of_getElem? (i := 721) (by decide +kernel))
theorem kc_X7_130 : Cond.constantLong RX7 130 (3571) ∈ lw_tbl := List.mem_append_right _ (List.mem_of_getElem? (i := 722) (by decide +kernel))
theorem kc_X7_132 : Cond.constantLong RX7 132 (65521) ∈ lw_tbl := List.mem_append_right _ (List.mem_of_getElem? (i := 723) (by decide +kernel))
end
section
/-! calls by their number of arguments; sums of naturals -/
section ARITY
variable {sh : Shp} {mt : Mt} {pc : Nat} {al : List (Option Value)} {st : List Value} {μ : Mem} {Q : Int32 → Mem → Prop}
variable {mt' : Mt} {idx n ci nn b : Nat} {fs : List (Option Nat)} {Q' : Int32 → Mem → Prop} {ty : FieldType} {v1 v2 v3 v4 : Value}
theorem a_callV0 (ck : CK mt.1.cls idx mt' 0 ci) (hf : Fits mt mt') (hs : sh[b]? = some (ci, nn, fs)) (hci : ci < 100) (hst : (st.map Value.category).sum ≤ 8) (d : decode mt.2.1 pc = .ok (.invokevirtual idx, 3)) (hr : mt'.2.2.2.1 = none) (hC : Con sh mt' [.ref b] μ Q') (kk : ∀ u, Q' 0 u → AW sh mt (pc + 3) al st u Q) : AW sh mt pc al (.ref b :: st) μ Q := a_callV (As := []) ck hf hs hci rfl hst d hr hC kk
theorem a_callV1 (ck : CK mt.1.cls idx mt' 1 ci) (hf : Fits mt mt') (hs : sh[b]? = some (ci, nn, fs)) (hci : ci < 100) (hst : (st.map Value.category).sum ≤ 8) (d : decode mt.2.1 pc = .ok (.invokevirtual idx, 3)) (hr : mt'.2.2.2.1 = none) (hC : Con sh mt' [.ref b, v1] μ Q') (kk : ∀ u, Q' 0 u → AW sh mt (pc + 3) al st u Q) : AW sh mt pc al (v1 :: .ref b :: st) μ Q := a_callV (As := [v1]) ck hf hs hci rfl hst d hr hC kk
theorem a_callV2 (ck : CK mt.1.cls idx mt' 2 ci) (hf : Fits mt mt') (hs : sh[b]? = some (ci, nn, fs)) (hci : ci < 100) (hst : (st.map Value.category).sum ≤ 8) (d : decode mt.2.1 pc = .ok (.invokevirtual idx, 3)) (hr : mt'.2.2.2.1 = none) (hC : Con sh mt' [.ref b, v1, v2] μ Q') (kk : ∀ u, Q' 0 u → AW sh mt (pc + 3) al st u Q) : AW sh mt pc al (v2 :: v1 :: .ref b :: st) μ Q := a_callV (As := [v1, v2]) ck hf hs hci rfl hst d hr hC kk
theorem a_callV3 (ck : CK mt.1.cls idx mt' 3 ci) (hf : Fits mt mt') (hs : sh[b]? = some (ci, nn, fs)) (hci : ci < 100) (hst : (st.map Value.category).sum ≤ 8) (d : decode mt.2.1 pc = .ok (.invokevirtual idx, 3)) (hr : mt'.2.2.2.1 = none) (hC : Con sh mt' [.ref b, v1, v2, v3] μ Q') (kk : ∀ u, Q' 0 u → AW sh mt (pc + 3) al st u Q) : AW sh mt pc al (v3 :: v2 :: v1 :: .ref b :: st) μ Q := a_callV (As := [v1, v2, v3]) ck hf hs hci rfl hst d hr hC kk
theorem a_callV4 (ck : CK mt.1.cls idx mt' 4 ci) (hf : Fits mt mt') (hs : sh[b]? = some (ci, nn, fs)) (hci : ci < 100) (hst : (st.map Value.category).sum ≤ 8) (d : decode mt.2.1 pc = .ok (.invokevirtual idx, 3)) (hr : mt'.2.2.2.1 = none) (hC : Con sh mt' [.ref b, v1, v2, v3, v4] μ Q') (kk : ∀ u, Q' 0 u → AW sh mt (pc + 3) al st u Q) : AW sh mt pc al (v4 :: v3 :: v2 :: v1 :: .ref b :: st) μ Q := a_callV (As := [v1, v2, v3, v4]) ck hf hs hci rfl hst d hr hC kk
theorem a_callI0 (ck : CK mt.1.cls idx mt' 0 ci) (hf : Fits mt mt') (hs : sh[b]? = some (ci, nn, fs)) (hci : ci < 100) (hst : (st.map Value.category).sum ≤ 8) (d : decode mt.2.1 pc = .ok (.invokevirtual idx, 3)) (hr : mt'.2.2.2.1 = some ty) (hC : Con sh mt' [.ref b] μ Q') (kk : ∀ r u, Q' r u → AW sh mt (pc + 3) al (.int r :: st) u Q) : AW sh mt pc al (.ref b :: st) μ Q := a_callI (As := []) ck hf hs hci rfl hst d hr hC kk
theorem a_callI1 (ck : CK mt.1.cls idx mt' 1 ci) (hf : Fits mt mt') (hs : sh[b]? = some (ci, nn, fs)) (hci : ci < 100) (hst : (st.map Value.category).sum ≤ 8) (d : decode mt.2.1 pc = .ok (.invokevirtual idx, 3)) (hr : mt'.2.2.2.1 = some ty) (hC : Con sh mt' [.ref b, v1] μ Q') (kk : ∀ r u, Q' r u → AW sh mt (pc + 3) al (.int r :: st) u Q) : AW sh mt pc al (v1 :: .ref b :: st) μ Q := a_callI (As := [v1]) ck hf hs hci rfl hst d hr hC kk
theorem a_callI2 (ck : CK mt.1.cls idx mt' 2 ci) (hf : Fits mt mt') (hs : sh[b]? = some (ci, nn, fs)) (hci : ci < 100) (hst : (st.map Value.category).sum ≤ 8) (d : decode mt.2.1 pc = .ok (.invokevirtual idx, 3)) (hr : mt'.2.2.2.1 = some ty) (hC : Con sh mt' [.ref b, v1, v2] μ Q') (kk : ∀ r u, Q' r u → AW sh mt (pc + 3) al (.int r :: st) u Q) : AW sh mt pc al (v2 :: v1 :: .ref b :: st) μ Q := a_callI (As := [v1, v2]) ck hf hs hci rfl hst d hr hC kk
theorem a_callI3 (ck : CK mt.1.cls idx mt' 3 ci) (hf : Fits mt mt') (hs : sh[b]? = some (ci, nn, fs)) (hci : ci < 100) (hst : (st.map Value.category).sum ≤ 8) (d : decode mt.2.1 pc = .ok (.invokevirtual idx, 3)) (hr : mt'.2.2.2.1 = some ty) (hC : Con sh mt' [.ref b, v1, v2, v3] μ Q') (kk : ∀ r u, Q' r u → AW sh mt (pc + 3) al (.int r :: st) u Q) : AW sh mt pc al (v3 :: v2 :: v1 :: .ref b :: st) μ Q := a_callI (As := [v1, v2, v3]) ck hf hs hci rfl hst d hr hC kk
theorem a_callI4 (ck : CK mt.1.cls idx mt' 4 ci) (hf : Fits mt mt') (hs : sh[b]? = some (ci, nn, fs)) (hci : ci < 100) (hst : (st.map Value.category).sum ≤ 8) (d : decode mt.2.1 pc = .ok (.invokevirtual idx, 3)) (hr : mt'.2.2.2.1 = some ty) (hC : Con sh mt' [.ref b, v1, v2, v3, v4] μ Q') (kk : ∀ r u, Q' r u → AW sh mt (pc + 3) al (.int r :: st) u Q) : AW sh mt pc al (v4 :: v3 :: v2 :: v1 :: .ref b :: st) μ Q := a_callI (As := [v1, v2, v3, v4]) ck hf hs hci rfl hst d hr hC kk
theorem a_callS1 (ck : CS mt.1.cls idx mt' 1) (hf : Fits mt mt') (hst : (st.map Value.category).sum ≤ 8) (d : decode mt.2.1 pc = .ok (.invokestatic idx, 3)) (hr : mt'.2.2.2.1 = some ty) (hC : Con sh mt' [v1] μ Q') (kk : ∀ r u, Q' r u → AW sh mt (pc + 3) al (.int r :: st) u Q) : AW sh mt pc al (v1 :: st) μ Q := a_callS (As := [v1]) ck hf rfl hst d hr hC kk
theorem a_callS2 (ck : CS mt.1.cls idx mt' 2) (hf : Fits mt mt') (hst : (st.map Value.category).sum ≤ 8) (d : decode mt.2.1 pc = .ok (.invokestatic idx, 3)) (hr : mt'.2.2.2.1 = some ty) (hC : Con sh mt' [v1, v2] μ Q') (kk : ∀ r u, Q' r u → AW sh mt (pc + 3) al (.int r :: st) u Q) : AW sh mt pc al (v2 :: v1 :: st) μ Q := a_callS (As := [v1, v2]) ck hf rfl hst d hr hC kk
theorem a_callS3 (ck : CS mt.1.cls idx mt' 3) (hf : Fits mt mt') (hst : (st.map Value.category).sum ≤ 8) (d : decode mt.2.1 pc = .ok (.invokestatic idx, 3)) (hr : mt'.2.2.2.1 = some ty) (hC : Con sh mt' [v1, v2, v3] μ Q') (kk : ∀ r u, Q' r u → AW sh mt (pc + 3) al (.int r :: st) u Q) : AW sh mt pc al (v3 :: v2 :: v1 :: st) μ Q := a_callS (As := [v1, v2, v3]) ck hf rfl hst d hr hC kk
theorem a_callN3 (hown : mt.1.cls = RX2) (hf : Fits mt mX6_drawnNumber) (hst : (st.map Value.category).sum ≤ 8) (d : decode mt.2.1 pc = .ok (.invokestatic 96, 3)) (hC : Con sh mX6_drawnNumber [v1, v2, v3] μ Q') (kk : ∀ r u, Q' r u → AW sh mt (pc + 3) al (.int r :: st) u Q) : AW sh mt pc al (v3 :: v2 :: v1 :: st) μ Q := a_callN (As := [v1, v2, v3]) hown rfl nw_dn1 nw_dn2 nw_dn3 hf rfl hst d rfl hC kk
theorem a_iaddN {x y : Int32} {a b : Nat} (hx : x = nI a) (hy : y = nI b) (d : decode mt.2.1 pc = .ok (.iadd, 1)) (k : AW sh mt (pc + 1) al (.int (nI (a + b)) :: st) μ Q) : AW sh mt pc al (.int y :: .int x :: st) μ Q := a_iadd d (by rw [hx, hy, nI_add]; exact k)
theorem a_imulN {x y : Int32} {a b : Nat} (hx : x = nI a) (hy : y = nI b) (d : decode mt.2.1 pc = .ok (.imul, 1)) (k : AW sh mt (pc + 1) al (.int (nI (a * b)) :: st) μ Q) : AW sh mt pc al (.int y :: .int x :: st) μ Q := a_imul d (by rw [hx, hy, pk_mul]; exact k)
theorem a_isubN {x y : Int32} {a b : Nat} (hx : x = nI a) (hy : y = nI b) (h : b ≤ a) (d : decode mt.2.1 pc = .ok (.isub, 1)) (k : AW sh mt (pc + 1) al (.int (nI (a - b)) :: st) μ Q) : AW sh mt pc al (.int y :: .int x :: st) μ Q := a_isub d (by rw [hx, hy, pk_sub h]; exact k)
theorem a_iincN {i : Nat} {m : Nat} {a : Nat} {al' : List (Option Value)} (d : decode mt.2.1 pc = .ok (.iinc i (m : Int), 3)) (h : al[i]? = some (some (.int (nI a)))) (hn : i < mt.2.2.1) (hl : nolong al i = true) (he : al.set i (some (.int (nI (a + m)))) = al') (k : AW sh mt (pc + 3) al' st μ Q) : AW sh mt pc al st μ Q := a_iinc d h (by rw [← nI_add]; rfl) hn hl he k
/-- a value on the stack, or in the ints, is another: rewriting -/
theorem AW.cast {pc' : Nat} {al' : List (Option Value)} {st' : List Value} {μ' : Mem} (h : AW sh mt pc al st μ Q) (e0 : pc = pc') (e1 : al = al') (e2 : st = st') (e3 : μ = μ') : AW sh mt pc' al' st' μ' Q := by
  subst e0; subst e1; subst e2; subst e3; exact h
theorem Con.mono {vs : List Value} {Q' : Int32 → Mem → Prop} (h : Con sh mt vs μ Q) (hq : ∀ r u, Q r u → Q' r u) : Con sh mt vs μ Q' := by
  intro l σ cA D A p e ha hc hk s m args below hf happ hP hK
  obtain ⟨k, o, h1, h2, h3, h4, h5⟩ := h l σ cA D A p e ha hc hk s m args below hf happ hP hK
  exact ⟨k, o, h1, h2, h3, Qc_mono hq h4, h5⟩
end ARITY
end
section
/-! the class's objects: 0 the HeardSlots, 1 its text, 2 the net, 53 the trial, 104 the reader, 105 its numbers, 106 the past, 107 158 209 260 its nets. A net n: n+1 sentBy, n+2 all, its station i at n+3+8i; a station o: o+1 row (o+2 to, o+3 length), o+4 memory (o+5 facts), o+6 owed, o+7 out. -/
def stS (o : Nat) : Shp := [(5, 19, [none, none, none, none, none, none, none, none, none, none, none, none, none, none, none, some (o + 1), some (o + 4), some (o + 6), some (o + 7)]), (0, 3, [none, some (o + 2), some (o + 3)]), (100, 6, []), (100, 6, []), (1, 2, [none, some (o + 5)]), (100, 24, []), (4, 4, [none, none, none, none]), (4, 4, [none, none, none, none])]
def netS (n : Nat) : Shp := [(2, 10, [none, none, none, none, none, none, none, none, some (n + 1), some (n + 2)]), (100, 10, []), (102, 6, [some (n + 3), some (n + 11), some (n + 19), some (n + 27), some (n + 35), some (n + 43)])] ++ (stS (n + 3) ++ (stS (n + 11) ++ (stS (n + 19) ++ (stS (n + 27) ++ (stS (n + 35) ++ stS (n + 43))))))
def shC : Shp := [(6, 8, [some 1, none, some 2, some 53, some 104, some 106, none, none]), (101, 200, [])] ++ (netS 2 ++ (netS 53 ++ ([(3, 5, [some 1, some 53, some 105, none, none]), (100, 3, []), (103, 4, [some 107, some 158, some 209, some 260])] ++ (netS 107 ++ (netS 158 ++ (netS 209 ++ netS 260))))))
def isSig (o : Nat) : Prop := shC[o]? = some (4, 4, [none, none, none, none])
def isRow (o : Nat) : Prop := shC[o]? = some (0, 3, [none, some (o + 1), some (o + 2)]) ∧ shC[o + 1]? = some (100, 6, []) ∧ shC[o + 2]? = some (100, 6, [])
def isMem (o : Nat) : Prop := shC[o]? = some (1, 2, [none, some (o + 1)]) ∧ shC[o + 1]? = some (100, 24, [])
def isSt (o : Nat) : Prop := shC[o]? = some (5, 19, [none, none, none, none, none, none, none, none, none, none, none, none, none, none, none, some (o + 1), some (o + 4), some (o + 6), some (o + 7)]) ∧ isRow (o + 1) ∧ isMem (o + 4) ∧ isSig (o + 6) ∧ isSig (o + 7)
def stA (n i : Nat) : Nat := n + 3 + 8 * i
def allF (n : Nat) : List (Option Nat) := [some (n + 3), some (n + 11), some (n + 19), some (n + 27), some (n + 35), some (n + 43)]
def isNet (n : Nat) : Prop := shC[n]? = some (2, 10, [none, none, none, none, none, none, none, none, some (n + 1), some (n + 2)]) ∧ shC[n + 1]? = some (100, 10, []) ∧ shC[n + 2]? = some (102, 6, allF n) ∧ ∀ i, i < 6 → isSt (stA n i)
theorem all_at {n i : Nat} (h : i < 6) : (allF n)[i]? = some (some (stA n i)) := by
  match i, h with
  | 0, _ => rfl
  | 1, _ => rfl
  | 2, _ => rfl
  | 3, _ => rfl
  | 4, _ => rfl
  | 5, _ => rfl
  | i + 6, h => omega
theorem isNet_of {n : Nat} (h : (List.range 51).all (fun k => decide (shC[n + k]? = (netS n)[k]?)) = true) : isNet n := by
  have h1 : ∀ k, k < 51 → shC[n + k]? = (netS n)[k]? := fun k hk => by simpa using List.all_eq_true.mp h k (List.mem_range.mpr hk)
  refine ⟨h1 0 (by decide), h1 1 (by decide), h1 2 (by decide), fun i hi => ?_⟩
  match i, hi with
  | 0, _ => exact ⟨h1 3 (by decide), ⟨h1 4 (by decide), h1 5 (by decide), h1 6 (by decide)⟩, ⟨h1 7 (by decide), h1 8 (by decide)⟩, h1 9 (by decide), h1 10 (by decide)⟩
  | 1, _ => exact ⟨h1 11 (by decide), ⟨h1 12 (by decide), h1 13 (by decide), h1 14 (by decide)⟩, ⟨h1 15 (by decide), h1 16 (by decide)⟩, h1 17 (by decide), h1 18 (by decide)⟩
  | 2, _ => exact ⟨h1 19 (by decide), ⟨h1 20 (by decide), h1 21 (by decide), h1 22 (by decide)⟩, ⟨h1 23 (by decide), h1 24 (by decide)⟩, h1 25 (by decide), h1 26 (by decide)⟩
  | 3, _ => exact ⟨h1 27 (by decide), ⟨h1 28 (by decide), h1 29 (by decide), h1 30 (by decide)⟩, ⟨h1 31 (by decide), h1 32 (by decide)⟩, h1 33 (by decide), h1 34 (by decide)⟩
  | 4, _ => exact ⟨h1 35 (by decide), ⟨h1 36 (by decide), h1 37 (by decide), h1 38 (by decide)⟩, ⟨h1 39 (by decide), h1 40 (by decide)⟩, h1 41 (by decide), h1 42 (by decide)⟩
  | 5, _ => exact ⟨h1 43 (by decide), ⟨h1 44 (by decide), h1 45 (by decide), h1 46 (by decide)⟩, ⟨h1 47 (by decide), h1 48 (by decide)⟩, h1 49 (by decide), h1 50 (by decide)⟩
  | i + 6, hi => omega
theorem net_2 : isNet 2 := isNet_of (by decide +kernel)
theorem net_53 : isNet 53 := isNet_of (by decide +kernel)
theorem net_107 : isNet 107 := isNet_of (by decide +kernel)
theorem net_158 : isNet 158 := isNet_of (by decide +kernel)
theorem net_209 : isNet 209 := isNet_of (by decide +kernel)
theorem net_260 : isNet 260 := isNet_of (by decide +kernel)
theorem a_top {sh : Shp} {mt : Mt} {pc : Nat} {al : List (Option Value)} {st : List Value} {μ : Mem} {Q : Int32 → Mem → Prop} {x y : Int32} (h : x = y) (k : AW sh mt pc al (.int y :: st) μ Q) : AW sh mt pc al (.int x :: st) μ Q := h ▸ k
theorem up2_ne {μ : Mem} {o k o' : Nat} {v : Int32} (h : o' ≠ o) : up2 μ o k v o' = μ o' := if_neg h
theorem up2_at {μ : Mem} {o k : Nat} {v : Int32} : up2 μ o k v o k = v := by simp [up2, upd]
theorem up2_k {μ : Mem} {o k k' : Nat} {v : Int32} (h : k' ≠ k) : up2 μ o k v o k' = μ o k' := by simp [up2, upd, h]
theorem upA_ne {μ : Mem} {o o' : Nat} {f : Nat → Int32} (h : o' ≠ o) : upA μ o f o' = μ o' := if_neg h
theorem upA_at {μ : Mem} {o : Nat} {f : Nat → Int32} : upA μ o f o = f := if_pos rfl
theorem up2_upA {μ : Mem} {o k : Nat} {f : Nat → Int32} {v : Int32} : up2 (upA μ o f) o k v = upA μ o (upd f k v) := by
  funext o'; unfold up2 upA; by_cases h : o' = o <;> simp [h]
theorem upA_upA {μ : Mem} {o : Nat} {f g : Nat → Int32} : upA (upA μ o f) o g = upA μ o g := by
  funext o'; unfold upA; by_cases h : o' = o <;> simp [h]
theorem upd_at {f : Nat → Int32} {k : Nat} {v : Int32} : upd f k v k = v := by simp [upd]
theorem upd_ne {f : Nat → Int32} {k j : Nat} {v : Int32} (h : j ≠ k) : upd f k v j = f j := by simp [upd, h]
theorem nI_ne {a b : Nat} (ha : a < 2 ^ 31) (hb : b < 2 ^ 31) (h : a ≠ b) : ¬ nI a = nI b := fun e => h ((nI_eq ha hb).mp e)
end
section
/-! Signal, LetterRow, Memory -/
def putF (μ : Mem) (o : Nat) (k t l p : Int32) : Mem := up2 (up2 (up2 (up2 μ o 0 k) o 1 t) o 2 l) o 3 p
set_option maxHeartbeats 4000000 in
set_option maxRecDepth 100000 in
theorem c_X4_put {μ : Mem} {o : Nat} {k t l p : Int32} (h : isSig o) : Con shC mX4_put [.ref o, .int k, .int t, .int l, .int p] μ (fun _ u => u = putF μ o k t l p) := by
  have h0 : shC[o]? = _ := h
  refine Con.ofAW (al0 := [some (.ref o), some (.int k), some (.int t), some (.int l), some (.int p)]) (by decide) rfl (Nat.le_of_ble_eq_true rfl) rfl ?_
  refine a_aload_n (pc := 0) dX4_put_0 rfl rfl ?_
  refine a_iload_n (pc := 1) dX4_put_1 rfl rfl ?_
  refine a_puti (pc := 2) fp_X4_9 (by assumption) (by decide) (by rfl) dX4_put_2 ?_
  refine a_aload_n (pc := 5) dX4_put_5 rfl rfl ?_
  refine a_iload_n (pc := 6) dX4_put_6 rfl rfl ?_
  refine a_puti (pc := 7) fp_X4_15 (by assumption) (by decide) (by rfl) dX4_put_7 ?_
  refine a_aload_n (pc := 10) dX4_put_10 rfl rfl ?_
  refine a_iload_n (pc := 11) dX4_put_11 rfl rfl ?_
  refine a_puti (pc := 12) fp_X4_18 (by assumption) (by decide) (by rfl) dX4_put_12 ?_
  refine a_aload_n (pc := 15) dX4_put_15 rfl rfl ?_
  refine a_iload (pc := 16) dX4_put_16 rfl ?_
  refine a_puti (pc := 18) fp_X4_21 (by assumption) (by decide) (by rfl) dX4_put_18 ?_
  refine a_vret (pc := 21) rfl dX4_put_21 ?_
  exact rfl

set_option maxHeartbeats 4000000 in
set_option maxRecDepth 100000 in
theorem c_X4_clear {μ : Mem} {o : Nat} (h : isSig o) : Con shC mX4_clear [.ref o] μ (fun _ u => u = putF μ o 0 0 0 0) := by
  have h0 : shC[o]? = _ := h
  refine Con.ofAW (al0 := [some (.ref o)]) (by decide) rfl (Nat.le_of_ble_eq_true rfl) rfl ?_
  refine a_aload_n (pc := 0) dX4_clear_0 rfl rfl ?_
  refine a_iconst (pc := 1) (v := 0) dX4_clear_1 (by decide) ?_
  refine a_iconst (pc := 2) (v := 0) dX4_clear_2 (by decide) ?_
  refine a_iconst (pc := 3) (v := 0) dX4_clear_3 (by decide) ?_
  refine a_iconst (pc := 4) (v := 0) dX4_clear_4 (by decide) ?_
  refine a_callV4 (pc := 5) ck_X4_24 ⟨(Nat.le_of_ble_eq_true rfl), (Nat.le_of_ble_eq_true rfl)⟩ (by assumption) (by decide) (Nat.le_of_ble_eq_true rfl) dX4_clear_5 rfl (c_X4_put h) ?_
  rintro u rfl
  refine a_vret (pc := 8) rfl dX4_clear_8 ?_
  exact rfl

set_option maxHeartbeats 4000000 in
set_option maxRecDepth 100000 in
theorem c_X4_copyFrom {μ : Mem} {o q : Nat} (h : isSig o) (hq : isSig q) : Con shC mX4_copyFrom [.ref o, .ref q] μ (fun _ u => u = putF μ o (μ q 0) (μ q 1) (μ q 2) (μ q 3)) := by
  have h0 : shC[o]? = _ := h
  have h1 : shC[q]? = _ := hq
  refine Con.ofAW (al0 := [some (.ref o), some (.ref q)]) (by decide) rfl (Nat.le_of_ble_eq_true rfl) rfl ?_
  refine a_aload_n (pc := 0) dX4_copyFrom_0 rfl rfl ?_
  refine a_aload_n (pc := 1) dX4_copyFrom_1 rfl rfl ?_
  refine a_geti (pc := 2) fl_X4_9 (by assumption) (by decide) (by rfl) dX4_copyFrom_2 ?_
  refine a_aload_n (pc := 5) dX4_copyFrom_5 rfl rfl ?_
  refine a_geti (pc := 6) fl_X4_15 (by assumption) (by decide) (by rfl) dX4_copyFrom_6 ?_
  refine a_aload_n (pc := 9) dX4_copyFrom_9 rfl rfl ?_
  refine a_geti (pc := 10) fl_X4_18 (by assumption) (by decide) (by rfl) dX4_copyFrom_10 ?_
  refine a_aload_n (pc := 13) dX4_copyFrom_13 rfl rfl ?_
  refine a_geti (pc := 14) fl_X4_21 (by assumption) (by decide) (by rfl) dX4_copyFrom_14 ?_
  refine a_callV4 (pc := 17) ck_X4_24 ⟨(Nat.le_of_ble_eq_true rfl), (Nat.le_of_ble_eq_true rfl)⟩ (by assumption) (by decide) (Nat.le_of_ble_eq_true rfl) dX4_copyFrom_17 rfl (c_X4_put h) ?_
  rintro u rfl
  refine a_vret (pc := 20) rfl dX4_copyFrom_20 ?_
  exact rfl

def addF (μ : Mem) (o s : Nat) (t l : Int32) : Mem := up2 (up2 (up2 μ (o + 1) s t) (o + 2) s l) o 0 (nI (s + 1))
set_option maxHeartbeats 4000000 in
set_option maxRecDepth 100000 in
theorem c_X0_add {μ : Mem} {o s : Nat} {t l : Int32} (h : isRow o) (hs : μ o 0 = nI s) (hl : s < 6) : Con shC mX0_add [.ref o, .int t, .int l] μ (fun _ u => u = addF μ o s t l) := by
  obtain ⟨h0, h1, h2⟩ := id h
  refine Con.ofAW (al0 := [some (.ref o), some (.int t), some (.int l)]) (by decide) rfl (Nat.le_of_ble_eq_true rfl) rfl ?_
  refine a_aload_n (pc := 0) dX0_add_0 rfl rfl ?_
  refine a_geti (pc := 1) fl_X0_18 (by assumption) (by decide) (by rfl) dX0_add_1 ?_
  refine a_bipush (pc := 4) (v := 6) dX0_add_4 (by decide) ?_
  refine a_icmp_ge (pc := 6) (tgt := 39) dX0_add_6 (by decide) (fun c_6 => ?_) (fun c_6 => ?_)
  · exact absurd (hs ▸ c_6) (nI_ge hl (by decide))
  · refine a_aload_n (pc := 9) dX0_add_9 rfl rfl ?_
    refine a_getr (pc := 10) fl_X0_9 (by assumption) (by decide) (by rfl) dX0_add_10 ?_
    refine a_aload_n (pc := 13) dX0_add_13 rfl rfl ?_
    refine a_geti (pc := 14) fl_X0_18 (by assumption) (by decide) (by rfl) dX0_add_14 ?_
    refine a_top (y := nI s) (by simp [up2, upd, upA, hs]) ?_
    refine a_iload_n (pc := 17) dX0_add_17 rfl rfl ?_
    refine a_iast (pc := 18)  (by assumption) rfl (by omega) (by decide) dX0_add_18 ?_
    refine a_aload_n (pc := 19) dX0_add_19 rfl rfl ?_
    refine a_getr (pc := 20) fl_X0_15 (by assumption) (by decide) (by rfl) dX0_add_20 ?_
    refine a_aload_n (pc := 23) dX0_add_23 rfl rfl ?_
    refine a_geti (pc := 24) fl_X0_18 (by assumption) (by decide) (by rfl) dX0_add_24 ?_
    refine a_top (y := nI s) (by simp [up2, upd, upA, hs]) ?_
    refine a_iload_n (pc := 27) dX0_add_27 rfl rfl ?_
    refine a_iast (pc := 28)  (by assumption) rfl (by omega) (by decide) dX0_add_28 ?_
    refine a_aload_n (pc := 29) dX0_add_29 rfl rfl ?_
    refine a_dup (pc := 30) dX0_add_30 rfl ?_
    refine a_geti (pc := 31) fl_X0_18 (by assumption) (by decide) (by rfl) dX0_add_31 ?_
    refine a_top (y := nI s) (by simp [up2, upd, upA, hs]) ?_
    refine a_iconst (pc := 34) (v := 1) dX0_add_34 (by decide) ?_
    refine a_iaddN (pc := 35) (a := _) (b := 1) rfl rfl dX0_add_35 ?_
    refine a_puti (pc := 36) fp_X0_18 (by assumption) (by decide) (by rfl) dX0_add_36 ?_
    refine a_vret (pc := 39) rfl dX0_add_39 ?_
    exact rfl

def rmvF (μ : Mem) (o s : Nat) : Mem := upA (upA (up2 μ o 0 (nI s)) (o + 1) (va_cpy (μ (o + 1)) (μ (o + 1)) 1 0 s)) (o + 2) (va_cpy (μ (o + 2)) (μ (o + 2)) 1 0 s)
set_option maxHeartbeats 4000000 in
set_option maxRecDepth 100000 in
theorem c_X0_removeFirst {μ : Mem} {o s : Nat} (h : isRow o) (hs : μ o 0 = nI (s + 1)) (hl : s < 6) : Con shC mX0_removeFirst [.ref o] μ (fun _ u => u = rmvF μ o s) := by
  obtain ⟨h0, h1, h2⟩ := id h
  refine Con.ofAW (al0 := [some (.ref o)]) (by decide) rfl (Nat.le_of_ble_eq_true rfl) rfl ?_
  refine a_aload_n (pc := 0) dX0_removeFirst_0 rfl rfl ?_
  refine a_geti (pc := 1) fl_X0_18 (by assumption) (by decide) (by rfl) dX0_removeFirst_1 ?_
  refine a_if_le (pc := 4) (tgt := 51) dX0_removeFirst_4 (by decide) (fun c_4 => ?_) (fun c_4 => ?_)
  · exact absurd (hs ▸ c_4) (nI_nle (Nat.succ_pos s) (by omega))
  · refine a_aload_n (pc := 7) dX0_removeFirst_7 rfl rfl ?_
    refine a_dup (pc := 8) dX0_removeFirst_8 rfl ?_
    refine a_geti (pc := 9) fl_X0_18 (by assumption) (by decide) (by rfl) dX0_removeFirst_9 ?_
    refine a_top (y := nI (s + 1)) hs ?_
    refine a_iconst (pc := 12) (v := 1) dX0_removeFirst_12 (by decide) ?_
    refine a_isubN (pc := 13) (a := _) (b := 1) rfl rfl (Nat.le_add_left 1 s) dX0_removeFirst_13 ?_
    refine a_puti (pc := 14) fp_X0_18 (by assumption) (by decide) (by rfl) dX0_removeFirst_14 ?_
    refine a_aload_n (pc := 17) dX0_removeFirst_17 rfl rfl ?_
    refine a_getr (pc := 18) fl_X0_9 (by assumption) (by decide) (by rfl) dX0_removeFirst_18 ?_
    refine a_iconst (pc := 21) (v := 1) dX0_removeFirst_21 (by decide) ?_
    refine a_aload_n (pc := 22) dX0_removeFirst_22 rfl rfl ?_
    refine a_getr (pc := 23) fl_X0_9 (by assumption) (by decide) (by rfl) dX0_removeFirst_23 ?_
    refine a_iconst (pc := 26) (v := 0) dX0_removeFirst_26 (by decide) ?_
    refine a_aload_n (pc := 27) dX0_removeFirst_27 rfl rfl ?_
    refine a_geti (pc := 28) fl_X0_18 (by assumption) (by decide) (by rfl) dX0_removeFirst_28 ?_
    refine a_top (y := nI s) (by simp [up2, upd, upA, hs]) ?_
    refine a_copy (pc := 31) (js := 1) (jd := 0) (jn := s) (by assumption) (by assumption) rfl rfl rfl (by omega) (by omega) (by decide) (by decide) nl_X0_22 nw_copy1 nw_copy2 nw_copy3 (Nat.le_of_ble_eq_true rfl) (Nat.le_of_ble_eq_true rfl) dX0_removeFirst_31 ?_
    refine a_aload_n (pc := 34) dX0_removeFirst_34 rfl rfl ?_
    refine a_getr (pc := 35) fl_X0_15 (by assumption) (by decide) (by rfl) dX0_removeFirst_35 ?_
    refine a_iconst (pc := 38) (v := 1) dX0_removeFirst_38 (by decide) ?_
    refine a_aload_n (pc := 39) dX0_removeFirst_39 rfl rfl ?_
    refine a_getr (pc := 40) fl_X0_15 (by assumption) (by decide) (by rfl) dX0_removeFirst_40 ?_
    refine a_iconst (pc := 43) (v := 0) dX0_removeFirst_43 (by decide) ?_
    refine a_aload_n (pc := 44) dX0_removeFirst_44 rfl rfl ?_
    refine a_geti (pc := 45) fl_X0_18 (by assumption) (by decide) (by rfl) dX0_removeFirst_45 ?_
    refine a_top (y := nI s) (by simp [up2, upd, upA, hs]) ?_
    refine a_copy (pc := 48) (js := 1) (jd := 0) (jn := s) (by assumption) (by assumption) rfl rfl rfl (by omega) (by omega) (by decide) (by decide) nl_X0_22 nw_copy1 nw_copy2 nw_copy3 (Nat.le_of_ble_eq_true rfl) (Nat.le_of_ble_eq_true rfl) dX0_removeFirst_48 ?_
    refine a_vret (pc := 51) rfl dX0_removeFirst_51 ?_
    simp [rmvF, up2, upA]

def cpRF (μ : Mem) (o q : Nat) : Mem := upA (upA (up2 μ o 0 (μ q 0)) (o + 1) (va_cpy (μ (q + 1)) (μ (o + 1)) 0 0 6)) (o + 2) (va_cpy (μ (q + 2)) (μ (o + 2)) 0 0 6)
set_option maxHeartbeats 4000000 in
set_option maxRecDepth 100000 in
theorem c_X0_copyFrom {μ : Mem} {o q : Nat} (h : isRow o) (hq : isRow q) (hd : q + 2 < o ∨ o + 2 < q) : Con shC mX0_copyFrom [.ref o, .ref q] μ (fun _ u => u = cpRF μ o q) := by
  obtain ⟨h0, h1, h2⟩ := id h
  obtain ⟨g0, g1, g2⟩ := id hq
  refine Con.ofAW (al0 := [some (.ref o), some (.ref q)]) (by decide) rfl (Nat.le_of_ble_eq_true rfl) rfl ?_
  refine a_aload_n (pc := 0) dX0_copyFrom_0 rfl rfl ?_
  refine a_aload_n (pc := 1) dX0_copyFrom_1 rfl rfl ?_
  refine a_geti (pc := 2) fl_X0_18 (by assumption) (by decide) (by rfl) dX0_copyFrom_2 ?_
  refine a_puti (pc := 5) fp_X0_18 (by assumption) (by decide) (by rfl) dX0_copyFrom_5 ?_
  refine a_aload_n (pc := 8) dX0_copyFrom_8 rfl rfl ?_
  refine a_getr (pc := 9) fl_X0_9 (by assumption) (by decide) (by rfl) dX0_copyFrom_9 ?_
  refine a_iconst (pc := 12) (v := 0) dX0_copyFrom_12 (by decide) ?_
  refine a_aload_n (pc := 13) dX0_copyFrom_13 rfl rfl ?_
  refine a_getr (pc := 14) fl_X0_9 (by assumption) (by decide) (by rfl) dX0_copyFrom_14 ?_
  refine a_iconst (pc := 17) (v := 0) dX0_copyFrom_17 (by decide) ?_
  refine a_bipush (pc := 18) (v := 6) dX0_copyFrom_18 (by decide) ?_
  refine a_copy (pc := 20) (js := 0) (jd := 0) (jn := 6) (by assumption) (by assumption) rfl rfl rfl (by omega) (by omega) (by decide) (by decide) nl_X0_22 nw_copy1 nw_copy2 nw_copy3 (Nat.le_of_ble_eq_true rfl) (Nat.le_of_ble_eq_true rfl) dX0_copyFrom_20 ?_
  refine a_aload_n (pc := 23) dX0_copyFrom_23 rfl rfl ?_
  refine a_getr (pc := 24) fl_X0_15 (by assumption) (by decide) (by rfl) dX0_copyFrom_24 ?_
  refine a_iconst (pc := 27) (v := 0) dX0_copyFrom_27 (by decide) ?_
  refine a_aload_n (pc := 28) dX0_copyFrom_28 rfl rfl ?_
  refine a_getr (pc := 29) fl_X0_15 (by assumption) (by decide) (by rfl) dX0_copyFrom_29 ?_
  refine a_iconst (pc := 32) (v := 0) dX0_copyFrom_32 (by decide) ?_
  refine a_bipush (pc := 33) (v := 6) dX0_copyFrom_33 (by decide) ?_
  refine a_copy (pc := 35) (js := 0) (jd := 0) (jn := 6) (by assumption) (by assumption) rfl rfl rfl (by omega) (by omega) (by decide) (by decide) nl_X0_22 nw_copy1 nw_copy2 nw_copy3 (Nat.le_of_ble_eq_true rfl) (Nat.le_of_ble_eq_true rfl) dX0_copyFrom_35 ?_
  refine a_vret (pc := 38) rfl dX0_copyFrom_38 ?_
  have e1 : q + 1 ≠ o := by omega
  have e2 : q + 2 ≠ o := by omega
  have e3 : q + 2 ≠ o + 1 := by omega
  have e4 : q ≠ o + 1 := by omega
  simp [cpRF, up2, upA, e1, e2, e3, e4]

def memF (μ : Mem) (o h : Nat) (a b c d : Int32) : Mem := up2 (up2 (up2 (up2 (up2 μ (o + 1) (h * 4) a) (o + 1) (h * 4 + 1) b) (o + 1) (h * 4 + 2) c) (o + 1) (h * 4 + 3) d) o 0 (nI (h + 1))
set_option maxHeartbeats 4000000 in
set_option maxRecDepth 100000 in
theorem c_X1_add {μ : Mem} {o h : Nat} {a b c d : Int32} (hm : isMem o) (hs : μ o 0 = nI h) (hl : h < 6) : Con shC mX1_add [.ref o, .int a, .int b, .int c, .int d] μ (fun _ u => u = memF μ o h a b c d) := by
  obtain ⟨h0, h1⟩ := id hm
  refine Con.ofAW (al0 := [some (.ref o), some (.int a), some (.int b), some (.int c), some (.int d), none]) (by decide) rfl (Nat.le_of_ble_eq_true rfl) rfl ?_
  refine a_aload_n (pc := 0) dX1_add_0 rfl rfl ?_
  refine a_geti (pc := 1) fl_X1_15 (by assumption) (by decide) (by rfl) dX1_add_1 ?_
  refine a_bipush (pc := 4) (v := 6) dX1_add_4 (by decide) ?_
  refine a_icmp_ne (pc := 6) (tgt := 38) dX1_add_6 (by decide) (fun c_6 => ?_) (fun c_6 => ?_)
  · refine a_aload_n (pc := 38) dX1_add_38 rfl rfl ?_
    refine a_geti (pc := 39) fl_X1_15 (by assumption) (by decide) (by rfl) dX1_add_39 ?_
    refine a_top (y := nI h) (by simp [up2, upd, upA, hs]) ?_
    refine a_iconst (pc := 42) (v := 4) dX1_add_42 (by decide) ?_
    refine a_imulN (pc := 43) (a := _) (b := 4) rfl rfl dX1_add_43 ?_
    refine a_istore (pc := 44) (al' := [some (.ref _), some (.int _), some (.int _), some (.int _), some (.int _), some (.int _)]) dX1_add_44 (by decide) rfl rfl ?_
    refine a_aload_n (pc := 46) dX1_add_46 rfl rfl ?_
    refine a_getr (pc := 47) fl_X1_11 (by assumption) (by decide) (by rfl) dX1_add_47 ?_
    refine a_iload (pc := 50) dX1_add_50 rfl ?_
    refine a_iload_n (pc := 52) dX1_add_52 rfl rfl ?_
    refine a_iast (pc := 53)  (by assumption) rfl (by omega) (by decide) dX1_add_53 ?_
    refine a_aload_n (pc := 54) dX1_add_54 rfl rfl ?_
    refine a_getr (pc := 55) fl_X1_11 (by assumption) (by decide) (by rfl) dX1_add_55 ?_
    refine a_iload (pc := 58) dX1_add_58 rfl ?_
    refine a_iconst (pc := 60) (v := 1) dX1_add_60 (by decide) ?_
    refine a_iaddN (pc := 61) (a := _) (b := 1) rfl rfl dX1_add_61 ?_
    refine a_iload_n (pc := 62) dX1_add_62 rfl rfl ?_
    refine a_iast (pc := 63)  (by assumption) rfl (by omega) (by decide) dX1_add_63 ?_
    refine a_aload_n (pc := 64) dX1_add_64 rfl rfl ?_
    refine a_getr (pc := 65) fl_X1_11 (by assumption) (by decide) (by rfl) dX1_add_65 ?_
    refine a_iload (pc := 68) dX1_add_68 rfl ?_
    refine a_iconst (pc := 70) (v := 2) dX1_add_70 (by decide) ?_
    refine a_iaddN (pc := 71) (a := _) (b := 2) rfl rfl dX1_add_71 ?_
    refine a_iload_n (pc := 72) dX1_add_72 rfl rfl ?_
    refine a_iast (pc := 73)  (by assumption) rfl (by omega) (by decide) dX1_add_73 ?_
    refine a_aload_n (pc := 74) dX1_add_74 rfl rfl ?_
    refine a_getr (pc := 75) fl_X1_11 (by assumption) (by decide) (by rfl) dX1_add_75 ?_
    refine a_iload (pc := 78) dX1_add_78 rfl ?_
    refine a_iconst (pc := 80) (v := 3) dX1_add_80 (by decide) ?_
    refine a_iaddN (pc := 81) (a := _) (b := 3) rfl rfl dX1_add_81 ?_
    refine a_iload (pc := 82) dX1_add_82 rfl ?_
    refine a_iast (pc := 84)  (by assumption) rfl (by omega) (by decide) dX1_add_84 ?_
    refine a_aload_n (pc := 85) dX1_add_85 rfl rfl ?_
    refine a_dup (pc := 86) dX1_add_86 rfl ?_
    refine a_geti (pc := 87) fl_X1_15 (by assumption) (by decide) (by rfl) dX1_add_87 ?_
    refine a_top (y := nI h) (by simp [up2, upd, upA, hs]) ?_
    refine a_iconst (pc := 90) (v := 1) dX1_add_90 (by decide) ?_
    refine a_iaddN (pc := 91) (a := _) (b := 1) rfl rfl dX1_add_91 ?_
    refine a_puti (pc := 92) fp_X1_15 (by assumption) (by decide) (by rfl) dX1_add_92 ?_
    refine a_vret (pc := 95) rfl dX1_add_95 ?_
    exact rfl
  · exact absurd (hs.symm.trans c_6) (nI_ne (b := 6) (by omega) (by omega) (by omega))

def mem6F (μ : Mem) (o : Nat) (a b c d : Int32) : Mem := memF (upA μ (o + 1) (va_cpy (μ (o + 1)) (μ (o + 1)) 4 0 20)) o 5 a b c d
set_option maxHeartbeats 4000000 in
set_option maxRecDepth 100000 in
theorem c_X1_add6 {μ : Mem} {o : Nat} {a b c d : Int32} (hm : isMem o) (hs : μ o 0 = nI 6) : Con shC mX1_add [.ref o, .int a, .int b, .int c, .int d] μ (fun _ u => u = mem6F μ o a b c d) := by
  obtain ⟨h0, h1⟩ := id hm
  refine Con.ofAW (al0 := [some (.ref o), some (.int a), some (.int b), some (.int c), some (.int d), none]) (by decide) rfl (Nat.le_of_ble_eq_true rfl) rfl ?_
  refine a_aload_n (pc := 0) dX1_add_0 rfl rfl ?_
  refine a_geti (pc := 1) fl_X1_15 (by assumption) (by decide) (by rfl) dX1_add_1 ?_
  refine a_bipush (pc := 4) (v := 6) dX1_add_4 (by decide) ?_
  refine a_icmp_ne (pc := 6) (tgt := 38) dX1_add_6 (by decide) (fun c_6 => ?_) (fun c_6 => ?_)
  · exact absurd hs c_6
  · refine a_aload_n (pc := 9) dX1_add_9 rfl rfl ?_
    refine a_dup (pc := 10) dX1_add_10 rfl ?_
    refine a_geti (pc := 11) fl_X1_15 (by assumption) (by decide) (by rfl) dX1_add_11 ?_
    refine a_top (y := nI 6) hs ?_
    refine a_iconst (pc := 14) (v := 1) dX1_add_14 (by decide) ?_
    refine a_isubN (pc := 15) (a := _) (b := 1) rfl rfl (by decide) dX1_add_15 ?_
    refine a_puti (pc := 16) fp_X1_15 (by assumption) (by decide) (by rfl) dX1_add_16 ?_
    refine a_aload_n (pc := 19) dX1_add_19 rfl rfl ?_
    refine a_getr (pc := 20) fl_X1_11 (by assumption) (by decide) (by rfl) dX1_add_20 ?_
    refine a_iconst (pc := 23) (v := 4) dX1_add_23 (by decide) ?_
    refine a_aload_n (pc := 24) dX1_add_24 rfl rfl ?_
    refine a_getr (pc := 25) fl_X1_11 (by assumption) (by decide) (by rfl) dX1_add_25 ?_
    refine a_iconst (pc := 28) (v := 0) dX1_add_28 (by decide) ?_
    refine a_aload_n (pc := 29) dX1_add_29 rfl rfl ?_
    refine a_geti (pc := 30) fl_X1_15 (by assumption) (by decide) (by rfl) dX1_add_30 ?_
    refine a_top (y := nI 5) (by simp [up2, upd]) ?_
    refine a_iconst (pc := 33) (v := 4) dX1_add_33 (by decide) ?_
    refine a_imulN (pc := 34) (a := _) (b := 4) rfl rfl dX1_add_34 ?_
    refine a_copy (pc := 35) (js := 4) (jd := 0) (jn := 20) (by assumption) (by assumption) rfl rfl rfl (by omega) (by omega) (by decide) (by decide) nl_X1_19 nw_copy1 nw_copy2 nw_copy3 (Nat.le_of_ble_eq_true rfl) (Nat.le_of_ble_eq_true rfl) dX1_add_35 ?_
    refine a_aload_n (pc := 38) dX1_add_38 rfl rfl ?_
    refine a_geti (pc := 39) fl_X1_15 (by assumption) (by decide) (by rfl) dX1_add_39 ?_
    refine a_top (y := nI 5) (by simp [up2, upd, upA]) ?_
    refine a_iconst (pc := 42) (v := 4) dX1_add_42 (by decide) ?_
    refine a_imulN (pc := 43) (a := _) (b := 4) rfl rfl dX1_add_43 ?_
    refine a_istore (pc := 44) (al' := [some (.ref _), some (.int _), some (.int _), some (.int _), some (.int _), some (.int _)]) dX1_add_44 (by decide) rfl rfl ?_
    refine a_aload_n (pc := 46) dX1_add_46 rfl rfl ?_
    refine a_getr (pc := 47) fl_X1_11 (by assumption) (by decide) (by rfl) dX1_add_47 ?_
    refine a_iload (pc := 50) dX1_add_50 rfl ?_
    refine a_iload_n (pc := 52) dX1_add_52 rfl rfl ?_
    refine a_iast (pc := 53)  (by assumption) rfl (by omega) (by decide) dX1_add_53 ?_
    refine a_aload_n (pc := 54) dX1_add_54 rfl rfl ?_
    refine a_getr (pc := 55) fl_X1_11 (by assumption) (by decide) (by rfl) dX1_add_55 ?_
    refine a_iload (pc := 58) dX1_add_58 rfl ?_
    refine a_iconst (pc := 60) (v := 1) dX1_add_60 (by decide) ?_
    refine a_iaddN (pc := 61) (a := _) (b := 1) rfl rfl dX1_add_61 ?_
    refine a_iload_n (pc := 62) dX1_add_62 rfl rfl ?_
    refine a_iast (pc := 63)  (by assumption) rfl (by omega) (by decide) dX1_add_63 ?_
    refine a_aload_n (pc := 64) dX1_add_64 rfl rfl ?_
    refine a_getr (pc := 65) fl_X1_11 (by assumption) (by decide) (by rfl) dX1_add_65 ?_
    refine a_iload (pc := 68) dX1_add_68 rfl ?_
    refine a_iconst (pc := 70) (v := 2) dX1_add_70 (by decide) ?_
    refine a_iaddN (pc := 71) (a := _) (b := 2) rfl rfl dX1_add_71 ?_
    refine a_iload_n (pc := 72) dX1_add_72 rfl rfl ?_
    refine a_iast (pc := 73)  (by assumption) rfl (by omega) (by decide) dX1_add_73 ?_
    refine a_aload_n (pc := 74) dX1_add_74 rfl rfl ?_
    refine a_getr (pc := 75) fl_X1_11 (by assumption) (by decide) (by rfl) dX1_add_75 ?_
    refine a_iload (pc := 78) dX1_add_78 rfl ?_
    refine a_iconst (pc := 80) (v := 3) dX1_add_80 (by decide) ?_
    refine a_iaddN (pc := 81) (a := _) (b := 3) rfl rfl dX1_add_81 ?_
    refine a_iload (pc := 82) dX1_add_82 rfl ?_
    refine a_iast (pc := 84)  (by assumption) rfl (by omega) (by decide) dX1_add_84 ?_
    refine a_aload_n (pc := 85) dX1_add_85 rfl rfl ?_
    refine a_dup (pc := 86) dX1_add_86 rfl ?_
    refine a_geti (pc := 87) fl_X1_15 (by assumption) (by decide) (by rfl) dX1_add_87 ?_
    refine a_top (y := nI 5) (by simp [up2, upd, upA]) ?_
    refine a_iconst (pc := 90) (v := 1) dX1_add_90 (by decide) ?_
    refine a_iaddN (pc := 91) (a := _) (b := 1) rfl rfl dX1_add_91 ?_
    refine a_puti (pc := 92) fp_X1_15 (by assumption) (by decide) (by rfl) dX1_add_92 ?_
    refine a_vret (pc := 95) rfl dX1_add_95 ?_
    funext x y
    by_cases hx : x = o <;> by_cases hy : x = o + 1 <;> simp [mem6F, memF, up2, upA, upd, hx, hy]
    all_goals (split <;> rfl)

def cpMF (μ : Mem) (o q : Nat) : Mem := upA (up2 μ o 0 (μ q 0)) (o + 1) (va_cpy (μ (q + 1)) (μ (o + 1)) 0 0 24)
set_option maxHeartbeats 4000000 in
set_option maxRecDepth 100000 in
theorem c_X1_copyFrom {μ : Mem} {o q : Nat} (h : isMem o) (hq : isMem q) (hd : q + 1 < o ∨ o + 1 < q) : Con shC mX1_copyFrom [.ref o, .ref q] μ (fun _ u => u = cpMF μ o q) := by
  obtain ⟨h0, h1⟩ := id h
  obtain ⟨g0, g1⟩ := id hq
  refine Con.ofAW (al0 := [some (.ref o), some (.ref q)]) (by decide) rfl (Nat.le_of_ble_eq_true rfl) rfl ?_
  refine a_aload_n (pc := 0) dX1_copyFrom_0 rfl rfl ?_
  refine a_aload_n (pc := 1) dX1_copyFrom_1 rfl rfl ?_
  refine a_geti (pc := 2) fl_X1_15 (by assumption) (by decide) (by rfl) dX1_copyFrom_2 ?_
  refine a_puti (pc := 5) fp_X1_15 (by assumption) (by decide) (by rfl) dX1_copyFrom_5 ?_
  refine a_aload_n (pc := 8) dX1_copyFrom_8 rfl rfl ?_
  refine a_getr (pc := 9) fl_X1_11 (by assumption) (by decide) (by rfl) dX1_copyFrom_9 ?_
  refine a_iconst (pc := 12) (v := 0) dX1_copyFrom_12 (by decide) ?_
  refine a_aload_n (pc := 13) dX1_copyFrom_13 rfl rfl ?_
  refine a_getr (pc := 14) fl_X1_11 (by assumption) (by decide) (by rfl) dX1_copyFrom_14 ?_
  refine a_iconst (pc := 17) (v := 0) dX1_copyFrom_17 (by decide) ?_
  refine a_bipush (pc := 18) (v := 24) dX1_copyFrom_18 (by decide) ?_
  refine a_copy (pc := 20) (js := 0) (jd := 0) (jn := 24) (by assumption) (by assumption) rfl rfl rfl (by omega) (by omega) (by decide) (by decide) nl_X1_19 nw_copy1 nw_copy2 nw_copy3 (Nat.le_of_ble_eq_true rfl) (Nat.le_of_ble_eq_true rfl) dX1_copyFrom_20 ?_
  refine a_vret (pc := 23) rfl dX1_copyFrom_23 ?_
  have e1 : q + 1 ≠ o := by omega
  simp [cpMF, up2, upA, e1]
end
section
/-! Station -/
set_option maxHeartbeats 4000000 in
set_option maxRecDepth 100000 in
theorem c_X5_tallyOf0 {μ : Mem} {o : Nat} (h : isSt o) : Con shC mX5_tallyOf [.ref o, .int 0] μ (fun r u => r = μ (o + 1) 0 ∧ u = μ) := by
  obtain ⟨h0, hrow, hmem, hs6, hs7⟩ := id h
  have h1 : shC[o + 1]? = some (0, 3, [none, some (o + 2), some (o + 3)]) := hrow.1
  have h2 : shC[o + 2]? = some (100, 6, []) := hrow.2.1
  have h3 : shC[o + 3]? = some (100, 6, []) := hrow.2.2
  have h4 : shC[o + 4]? = some (1, 2, [none, some (o + 5)]) := hmem.1
  have h5 : shC[o + 5]? = some (100, 24, []) := hmem.2
  have h6 : shC[o + 6]? = _ := hs6
  have h7 : shC[o + 7]? = _ := hs7
  refine Con.ofAW (al0 := [some (.ref o), some (.int 0)]) (by decide) rfl (Nat.le_of_ble_eq_true rfl) rfl ?_
  refine a_iload_n (pc := 0) dX5_tallyOf_0 rfl rfl ?_
  refine a_tableIn (pc := 1) (off := 27) (tgt := 28) dX5_tallyOf_1 (by decide) (by decide) (by decide) (by decide) ?_
  refine a_aload_n (pc := 28) dX5_tallyOf_28 rfl rfl ?_
  refine a_getr (pc := 29) fl_X5_12 (by assumption) (by decide) (by rfl) dX5_tallyOf_29 ?_
  refine a_geti (pc := 32) fl_X5_82 (by assumption) (by decide) (by rfl) dX5_tallyOf_32 ?_
  refine a_iret (pc := 35) rfl dX5_tallyOf_35 ?_
  exact ⟨rfl, rfl⟩

set_option maxHeartbeats 4000000 in
set_option maxRecDepth 100000 in
theorem c_X5_tallyOf1 {μ : Mem} {o : Nat} (h : isSt o) : Con shC mX5_tallyOf [.ref o, .int 1] μ (fun r u => r = μ o 6 ∧ u = μ) := by
  obtain ⟨h0, hrow, hmem, hs6, hs7⟩ := id h
  have h1 : shC[o + 1]? = some (0, 3, [none, some (o + 2), some (o + 3)]) := hrow.1
  have h2 : shC[o + 2]? = some (100, 6, []) := hrow.2.1
  have h3 : shC[o + 3]? = some (100, 6, []) := hrow.2.2
  have h4 : shC[o + 4]? = some (1, 2, [none, some (o + 5)]) := hmem.1
  have h5 : shC[o + 5]? = some (100, 24, []) := hmem.2
  have h6 : shC[o + 6]? = _ := hs6
  have h7 : shC[o + 7]? = _ := hs7
  refine Con.ofAW (al0 := [some (.ref o), some (.int 1)]) (by decide) rfl (Nat.le_of_ble_eq_true rfl) rfl ?_
  refine a_iload_n (pc := 0) dX5_tallyOf_0 rfl rfl ?_
  refine a_tableIn (pc := 1) (off := 35) (tgt := 36) dX5_tallyOf_1 (by decide) (by decide) (by decide) (by decide) ?_
  refine a_aload_n (pc := 36) dX5_tallyOf_36 rfl rfl ?_
  refine a_geti (pc := 37) fl_X5_54 (by assumption) (by decide) (by rfl) dX5_tallyOf_37 ?_
  refine a_iret (pc := 40) rfl dX5_tallyOf_40 ?_
  exact ⟨rfl, rfl⟩

set_option maxHeartbeats 4000000 in
set_option maxRecDepth 100000 in
theorem c_X5_tallyOf2 {μ : Mem} {o : Nat} (h : isSt o) : Con shC mX5_tallyOf [.ref o, .int 2] μ (fun r u => r = μ o 7 ∧ u = μ) := by
  obtain ⟨h0, hrow, hmem, hs6, hs7⟩ := id h
  have h1 : shC[o + 1]? = some (0, 3, [none, some (o + 2), some (o + 3)]) := hrow.1
  have h2 : shC[o + 2]? = some (100, 6, []) := hrow.2.1
  have h3 : shC[o + 3]? = some (100, 6, []) := hrow.2.2
  have h4 : shC[o + 4]? = some (1, 2, [none, some (o + 5)]) := hmem.1
  have h5 : shC[o + 5]? = some (100, 24, []) := hmem.2
  have h6 : shC[o + 6]? = _ := hs6
  have h7 : shC[o + 7]? = _ := hs7
  refine Con.ofAW (al0 := [some (.ref o), some (.int 2)]) (by decide) rfl (Nat.le_of_ble_eq_true rfl) rfl ?_
  refine a_iload_n (pc := 0) dX5_tallyOf_0 rfl rfl ?_
  refine a_tableIn (pc := 1) (off := 40) (tgt := 41) dX5_tallyOf_1 (by decide) (by decide) (by decide) (by decide) ?_
  refine a_aload_n (pc := 41) dX5_tallyOf_41 rfl rfl ?_
  refine a_geti (pc := 42) fl_X5_57 (by assumption) (by decide) (by rfl) dX5_tallyOf_42 ?_
  refine a_iret (pc := 45) rfl dX5_tallyOf_45 ?_
  exact ⟨rfl, rfl⟩

set_option maxHeartbeats 4000000 in
set_option maxRecDepth 100000 in
theorem c_X5_tallyOf3 {μ : Mem} {o : Nat} (h : isSt o) : Con shC mX5_tallyOf [.ref o, .int 3] μ (fun r u => r = μ o 5 ∧ u = μ) := by
  obtain ⟨h0, hrow, hmem, hs6, hs7⟩ := id h
  have h1 : shC[o + 1]? = some (0, 3, [none, some (o + 2), some (o + 3)]) := hrow.1
  have h2 : shC[o + 2]? = some (100, 6, []) := hrow.2.1
  have h3 : shC[o + 3]? = some (100, 6, []) := hrow.2.2
  have h4 : shC[o + 4]? = some (1, 2, [none, some (o + 5)]) := hmem.1
  have h5 : shC[o + 5]? = some (100, 24, []) := hmem.2
  have h6 : shC[o + 6]? = _ := hs6
  have h7 : shC[o + 7]? = _ := hs7
  refine Con.ofAW (al0 := [some (.ref o), some (.int 3)]) (by decide) rfl (Nat.le_of_ble_eq_true rfl) rfl ?_
  refine a_iload_n (pc := 0) dX5_tallyOf_0 rfl rfl ?_
  refine a_tableOut (pc := 1) (tgt := 46) dX5_tallyOf_1 (by decide) (by decide) ?_
  refine a_aload_n (pc := 46) dX5_tallyOf_46 rfl rfl ?_
  refine a_geti (pc := 47) fl_X5_51 (by assumption) (by decide) (by rfl) dX5_tallyOf_47 ?_
  refine a_iret (pc := 50) rfl dX5_tallyOf_50 ?_
  exact ⟨rfl, rfl⟩

def sndA (μ : Mem) (o : Nat) (k : Int32) : Mem := if k = 0 then putF μ (o + 7) 0 0 0 0 else if k = 2 ∨ k = 4 then putF μ (o + 7) (μ (o + 6) 0) (μ (o + 6) 1) (μ (o + 6) 2) (μ (o + 6) 3) else putF μ (o + 7) k (μ (o + 2) 0) (μ (o + 3) 0) (μ o 11)
def sndF (μ : Mem) (o : Nat) (k : Int32) : Mem := if k = 3 then up2 (up2 (putF (sndA μ o k) (o + 6) 0 0 0 0) o 11 (μ o 11 + 1)) o 10 (if μ (o + 3) 0 ≤ μ o 11 + 1 then 0 else 1) else putF (sndA μ o k) (o + 6) 0 0 0 0
set_option maxHeartbeats 4000000 in
set_option maxRecDepth 100000 in
theorem c_X5_send {μ : Mem} {o : Nat} {k : Int32} (h : isSt o) : Con shC mX5_send [.ref o, .int k] μ (fun _ u => u = sndF μ o k) := by
  obtain ⟨h0, hrow, hmem, hs6, hs7⟩ := id h
  have h1 : shC[o + 1]? = some (0, 3, [none, some (o + 2), some (o + 3)]) := hrow.1
  have h2 : shC[o + 2]? = some (100, 6, []) := hrow.2.1
  have h3 : shC[o + 3]? = some (100, 6, []) := hrow.2.2
  have h4 : shC[o + 4]? = some (1, 2, [none, some (o + 5)]) := hmem.1
  have h5 : shC[o + 5]? = some (100, 24, []) := hmem.2
  have h6 : shC[o + 6]? = _ := hs6
  have h7 : shC[o + 7]? = _ := hs7
  refine Con.ofAW (al0 := [some (.ref o), some (.int k)]) (by decide) rfl (Nat.le_of_ble_eq_true rfl) rfl ?_
  refine a_iload_n (pc := 0) dX5_send_0 rfl rfl ?_
  refine a_if_ne (pc := 1) (tgt := 14) dX5_send_1 (by decide) (fun c_1 => ?_) (fun c_1 => ?_)
  · refine a_iload_n (pc := 14) dX5_send_14 rfl rfl ?_
    refine a_iconst (pc := 15) (v := 2) dX5_send_15 (by decide) ?_
    refine a_icmp_eq (pc := 16) (tgt := 24) dX5_send_16 (by decide) (fun c_16 => ?_) (fun c_16 => ?_)
    · refine a_aload_n (pc := 24) dX5_send_24 rfl rfl ?_
      refine a_getr (pc := 25) fl_X5_32 (by assumption) (by decide) (by rfl) dX5_send_25 ?_
      refine a_aload_n (pc := 28) dX5_send_28 rfl rfl ?_
      refine a_getr (pc := 29) fl_X5_28 (by assumption) (by decide) (by rfl) dX5_send_29 ?_
      refine a_callV1 (pc := 32) ck_X5_98 ⟨(Nat.le_of_ble_eq_true rfl), (Nat.le_of_ble_eq_true rfl)⟩ (by assumption) (by decide) (Nat.le_of_ble_eq_true rfl) dX5_send_32 rfl (c_X4_copyFrom hs7 hs6) ?_
      rintro u rfl
      refine a_goto (pc := 35) (tgt := 68) dX5_send_35 (by decide) ?_
      refine a_aload_n (pc := 68) dX5_send_68 rfl rfl ?_
      refine a_getr (pc := 69) fl_X5_28 (by assumption) (by decide) (by rfl) dX5_send_69 ?_
      refine a_callV0 (pc := 72) ck_X5_88 ⟨(Nat.le_of_ble_eq_true rfl), (Nat.le_of_ble_eq_true rfl)⟩ (by assumption) (by decide) (Nat.le_of_ble_eq_true rfl) dX5_send_72 rfl (c_X4_clear (by assumption)) ?_
      rintro u rfl
      refine a_iload_n (pc := 75) dX5_send_75 rfl rfl ?_
      refine a_iconst (pc := 76) (v := 3) dX5_send_76 (by decide) ?_
      refine a_icmp_ne (pc := 77) (tgt := 115) dX5_send_77 (by decide) (fun c_77 => ?_) (fun c_77 => ?_)
      · refine a_vret (pc := 115) rfl dX5_send_115 ?_
        simp_all [sndF, sndA, putF, up2, upd, -Int32.not_lt, -Int32.not_le]
      · refine a_aload_n (pc := 80) dX5_send_80 rfl rfl ?_
        refine a_dup (pc := 81) dX5_send_81 rfl ?_
        refine a_geti (pc := 82) fl_X5_70 (by assumption) (by decide) (by rfl) dX5_send_82 ?_
        refine a_iconst (pc := 85) (v := 1) dX5_send_85 (by decide) ?_
        refine a_iadd (pc := 86) dX5_send_86 ?_
        refine a_puti (pc := 87) fp_X5_70 (by assumption) (by decide) (by rfl) dX5_send_87 ?_
        refine a_aload_n (pc := 90) dX5_send_90 rfl rfl ?_
        refine a_aload_n (pc := 91) dX5_send_91 rfl rfl ?_
        refine a_geti (pc := 92) fl_X5_70 (by assumption) (by decide) (by rfl) dX5_send_92 ?_
        refine a_aload_n (pc := 95) dX5_send_95 rfl rfl ?_
        refine a_getr (pc := 96) fl_X5_12 (by assumption) (by decide) (by rfl) dX5_send_96 ?_
        refine a_getr (pc := 99) fl_X5_105 (by assumption) (by decide) (by rfl) dX5_send_99 ?_
        refine a_iconst (pc := 102) (v := 0) dX5_send_102 (by decide) ?_
        refine a_iald (pc := 103) (j := 0) (by assumption) rfl (by omega) (by decide) dX5_send_103 ?_
        refine a_icmp_ge (pc := 104) (tgt := 111) dX5_send_104 (by decide) (fun c_104 => ?_) (fun c_104 => ?_)
        · refine a_iconst (pc := 111) (v := 0) dX5_send_111 (by decide) ?_
          refine a_putx (pc := 112) fp_X5_66 (by rfl) (by rfl) (by assumption) (by decide) (by rfl) dX5_send_112 ?_
          refine a_vret (pc := 115) rfl dX5_send_115 ?_
          simp_all [sndF, sndA, putF, up2, upd, -Int32.not_lt, -Int32.not_le]
        · refine a_iconst (pc := 107) (v := 1) dX5_send_107 (by decide) ?_
          refine a_goto (pc := 108) (tgt := 112) dX5_send_108 (by decide) ?_
          refine a_putx (pc := 112) fp_X5_66 (by rfl) (by rfl) (by assumption) (by decide) (by rfl) dX5_send_112 ?_
          refine a_vret (pc := 115) rfl dX5_send_115 ?_
          simp_all [sndF, sndA, putF, up2, upd, -Int32.not_lt, -Int32.not_le]
    · refine a_iload_n (pc := 19) dX5_send_19 rfl rfl ?_
      refine a_iconst (pc := 20) (v := 4) dX5_send_20 (by decide) ?_
      refine a_icmp_ne (pc := 21) (tgt := 38) dX5_send_21 (by decide) (fun c_21 => ?_) (fun c_21 => ?_)
      · refine a_aload_n (pc := 38) dX5_send_38 rfl rfl ?_
        refine a_getr (pc := 39) fl_X5_32 (by assumption) (by decide) (by rfl) dX5_send_39 ?_
        refine a_iload_n (pc := 42) dX5_send_42 rfl rfl ?_
        refine a_aload_n (pc := 43) dX5_send_43 rfl rfl ?_
        refine a_getr (pc := 44) fl_X5_12 (by assumption) (by decide) (by rfl) dX5_send_44 ?_
        refine a_getr (pc := 47) fl_X5_101 (by assumption) (by decide) (by rfl) dX5_send_47 ?_
        refine a_iconst (pc := 50) (v := 0) dX5_send_50 (by decide) ?_
        refine a_iald (pc := 51) (j := 0) (by assumption) rfl (by omega) (by decide) dX5_send_51 ?_
        refine a_aload_n (pc := 52) dX5_send_52 rfl rfl ?_
        refine a_getr (pc := 53) fl_X5_12 (by assumption) (by decide) (by rfl) dX5_send_53 ?_
        refine a_getr (pc := 56) fl_X5_105 (by assumption) (by decide) (by rfl) dX5_send_56 ?_
        refine a_iconst (pc := 59) (v := 0) dX5_send_59 (by decide) ?_
        refine a_iald (pc := 60) (j := 0) (by assumption) rfl (by omega) (by decide) dX5_send_60 ?_
        refine a_aload_n (pc := 61) dX5_send_61 rfl rfl ?_
        refine a_geti (pc := 62) fl_X5_70 (by assumption) (by decide) (by rfl) dX5_send_62 ?_
        refine a_callV4 (pc := 65) ck_X5_108 ⟨(Nat.le_of_ble_eq_true rfl), (Nat.le_of_ble_eq_true rfl)⟩ (by assumption) (by decide) (Nat.le_of_ble_eq_true rfl) dX5_send_65 rfl (c_X4_put (by assumption)) ?_
        rintro u rfl
        refine a_aload_n (pc := 68) dX5_send_68 rfl rfl ?_
        refine a_getr (pc := 69) fl_X5_28 (by assumption) (by decide) (by rfl) dX5_send_69 ?_
        refine a_callV0 (pc := 72) ck_X5_88 ⟨(Nat.le_of_ble_eq_true rfl), (Nat.le_of_ble_eq_true rfl)⟩ (by assumption) (by decide) (Nat.le_of_ble_eq_true rfl) dX5_send_72 rfl (c_X4_clear (by assumption)) ?_
        rintro u rfl
        refine a_iload_n (pc := 75) dX5_send_75 rfl rfl ?_
        refine a_iconst (pc := 76) (v := 3) dX5_send_76 (by decide) ?_
        refine a_icmp_ne (pc := 77) (tgt := 115) dX5_send_77 (by decide) (fun c_77 => ?_) (fun c_77 => ?_)
        · refine a_vret (pc := 115) rfl dX5_send_115 ?_
          simp_all [sndF, sndA, putF, up2, upd, -Int32.not_lt, -Int32.not_le]
        · refine a_aload_n (pc := 80) dX5_send_80 rfl rfl ?_
          refine a_dup (pc := 81) dX5_send_81 rfl ?_
          refine a_geti (pc := 82) fl_X5_70 (by assumption) (by decide) (by rfl) dX5_send_82 ?_
          refine a_iconst (pc := 85) (v := 1) dX5_send_85 (by decide) ?_
          refine a_iadd (pc := 86) dX5_send_86 ?_
          refine a_puti (pc := 87) fp_X5_70 (by assumption) (by decide) (by rfl) dX5_send_87 ?_
          refine a_aload_n (pc := 90) dX5_send_90 rfl rfl ?_
          refine a_aload_n (pc := 91) dX5_send_91 rfl rfl ?_
          refine a_geti (pc := 92) fl_X5_70 (by assumption) (by decide) (by rfl) dX5_send_92 ?_
          refine a_aload_n (pc := 95) dX5_send_95 rfl rfl ?_
          refine a_getr (pc := 96) fl_X5_12 (by assumption) (by decide) (by rfl) dX5_send_96 ?_
          refine a_getr (pc := 99) fl_X5_105 (by assumption) (by decide) (by rfl) dX5_send_99 ?_
          refine a_iconst (pc := 102) (v := 0) dX5_send_102 (by decide) ?_
          refine a_iald (pc := 103) (j := 0) (by assumption) rfl (by omega) (by decide) dX5_send_103 ?_
          refine a_icmp_ge (pc := 104) (tgt := 111) dX5_send_104 (by decide) (fun c_104 => ?_) (fun c_104 => ?_)
          · refine a_iconst (pc := 111) (v := 0) dX5_send_111 (by decide) ?_
            refine a_putx (pc := 112) fp_X5_66 (by rfl) (by rfl) (by assumption) (by decide) (by rfl) dX5_send_112 ?_
            refine a_vret (pc := 115) rfl dX5_send_115 ?_
            simp_all [sndF, sndA, putF, up2, upd, -Int32.not_lt, -Int32.not_le]
          · refine a_iconst (pc := 107) (v := 1) dX5_send_107 (by decide) ?_
            refine a_goto (pc := 108) (tgt := 112) dX5_send_108 (by decide) ?_
            refine a_putx (pc := 112) fp_X5_66 (by rfl) (by rfl) (by assumption) (by decide) (by rfl) dX5_send_112 ?_
            refine a_vret (pc := 115) rfl dX5_send_115 ?_
            simp_all [sndF, sndA, putF, up2, upd, -Int32.not_lt, -Int32.not_le]
      · refine a_aload_n (pc := 24) dX5_send_24 rfl rfl ?_
        refine a_getr (pc := 25) fl_X5_32 (by assumption) (by decide) (by rfl) dX5_send_25 ?_
        refine a_aload_n (pc := 28) dX5_send_28 rfl rfl ?_
        refine a_getr (pc := 29) fl_X5_28 (by assumption) (by decide) (by rfl) dX5_send_29 ?_
        refine a_callV1 (pc := 32) ck_X5_98 ⟨(Nat.le_of_ble_eq_true rfl), (Nat.le_of_ble_eq_true rfl)⟩ (by assumption) (by decide) (Nat.le_of_ble_eq_true rfl) dX5_send_32 rfl (c_X4_copyFrom hs7 hs6) ?_
        rintro u rfl
        refine a_goto (pc := 35) (tgt := 68) dX5_send_35 (by decide) ?_
        refine a_aload_n (pc := 68) dX5_send_68 rfl rfl ?_
        refine a_getr (pc := 69) fl_X5_28 (by assumption) (by decide) (by rfl) dX5_send_69 ?_
        refine a_callV0 (pc := 72) ck_X5_88 ⟨(Nat.le_of_ble_eq_true rfl), (Nat.le_of_ble_eq_true rfl)⟩ (by assumption) (by decide) (Nat.le_of_ble_eq_true rfl) dX5_send_72 rfl (c_X4_clear (by assumption)) ?_
        rintro u rfl
        refine a_iload_n (pc := 75) dX5_send_75 rfl rfl ?_
        refine a_iconst (pc := 76) (v := 3) dX5_send_76 (by decide) ?_
        refine a_icmp_ne (pc := 77) (tgt := 115) dX5_send_77 (by decide) (fun c_77 => ?_) (fun c_77 => ?_)
        · refine a_vret (pc := 115) rfl dX5_send_115 ?_
          simp_all [sndF, sndA, putF, up2, upd, -Int32.not_lt, -Int32.not_le]
        · refine a_aload_n (pc := 80) dX5_send_80 rfl rfl ?_
          refine a_dup (pc := 81) dX5_send_81 rfl ?_
          refine a_geti (pc := 82) fl_X5_70 (by assumption) (by decide) (by rfl) dX5_send_82 ?_
          refine a_iconst (pc := 85) (v := 1) dX5_send_85 (by decide) ?_
          refine a_iadd (pc := 86) dX5_send_86 ?_
          refine a_puti (pc := 87) fp_X5_70 (by assumption) (by decide) (by rfl) dX5_send_87 ?_
          refine a_aload_n (pc := 90) dX5_send_90 rfl rfl ?_
          refine a_aload_n (pc := 91) dX5_send_91 rfl rfl ?_
          refine a_geti (pc := 92) fl_X5_70 (by assumption) (by decide) (by rfl) dX5_send_92 ?_
          refine a_aload_n (pc := 95) dX5_send_95 rfl rfl ?_
          refine a_getr (pc := 96) fl_X5_12 (by assumption) (by decide) (by rfl) dX5_send_96 ?_
          refine a_getr (pc := 99) fl_X5_105 (by assumption) (by decide) (by rfl) dX5_send_99 ?_
          refine a_iconst (pc := 102) (v := 0) dX5_send_102 (by decide) ?_
          refine a_iald (pc := 103) (j := 0) (by assumption) rfl (by omega) (by decide) dX5_send_103 ?_
          refine a_icmp_ge (pc := 104) (tgt := 111) dX5_send_104 (by decide) (fun c_104 => ?_) (fun c_104 => ?_)
          · refine a_iconst (pc := 111) (v := 0) dX5_send_111 (by decide) ?_
            refine a_putx (pc := 112) fp_X5_66 (by rfl) (by rfl) (by assumption) (by decide) (by rfl) dX5_send_112 ?_
            refine a_vret (pc := 115) rfl dX5_send_115 ?_
            simp_all [sndF, sndA, putF, up2, upd, -Int32.not_lt, -Int32.not_le]
          · refine a_iconst (pc := 107) (v := 1) dX5_send_107 (by decide) ?_
            refine a_goto (pc := 108) (tgt := 112) dX5_send_108 (by decide) ?_
            refine a_putx (pc := 112) fp_X5_66 (by rfl) (by rfl) (by assumption) (by decide) (by rfl) dX5_send_112 ?_
            refine a_vret (pc := 115) rfl dX5_send_115 ?_
            simp_all [sndF, sndA, putF, up2, upd, -Int32.not_lt, -Int32.not_le]
  · refine a_aload_n (pc := 4) dX5_send_4 rfl rfl ?_
    refine a_getr (pc := 5) fl_X5_32 (by assumption) (by decide) (by rfl) dX5_send_5 ?_
    refine a_callV0 (pc := 8) ck_X5_88 ⟨(Nat.le_of_ble_eq_true rfl), (Nat.le_of_ble_eq_true rfl)⟩ (by assumption) (by decide) (Nat.le_of_ble_eq_true rfl) dX5_send_8 rfl (c_X4_clear (by assumption)) ?_
    rintro u rfl
    refine a_goto (pc := 11) (tgt := 68) dX5_send_11 (by decide) ?_
    refine a_aload_n (pc := 68) dX5_send_68 rfl rfl ?_
    refine a_getr (pc := 69) fl_X5_28 (by assumption) (by decide) (by rfl) dX5_send_69 ?_
    refine a_callV0 (pc := 72) ck_X5_88 ⟨(Nat.le_of_ble_eq_true rfl), (Nat.le_of_ble_eq_true rfl)⟩ (by assumption) (by decide) (Nat.le_of_ble_eq_true rfl) dX5_send_72 rfl (c_X4_clear (by assumption)) ?_
    rintro u rfl
    refine a_iload_n (pc := 75) dX5_send_75 rfl rfl ?_
    refine a_iconst (pc := 76) (v := 3) dX5_send_76 (by decide) ?_
    refine a_icmp_ne (pc := 77) (tgt := 115) dX5_send_77 (by decide) (fun c_77 => ?_) (fun c_77 => ?_)
    · refine a_vret (pc := 115) rfl dX5_send_115 ?_
      simp_all [sndF, sndA, putF, up2, upd, -Int32.not_lt, -Int32.not_le]
    · refine a_aload_n (pc := 80) dX5_send_80 rfl rfl ?_
      refine a_dup (pc := 81) dX5_send_81 rfl ?_
      refine a_geti (pc := 82) fl_X5_70 (by assumption) (by decide) (by rfl) dX5_send_82 ?_
      refine a_iconst (pc := 85) (v := 1) dX5_send_85 (by decide) ?_
      refine a_iadd (pc := 86) dX5_send_86 ?_
      refine a_puti (pc := 87) fp_X5_70 (by assumption) (by decide) (by rfl) dX5_send_87 ?_
      refine a_aload_n (pc := 90) dX5_send_90 rfl rfl ?_
      refine a_aload_n (pc := 91) dX5_send_91 rfl rfl ?_
      refine a_geti (pc := 92) fl_X5_70 (by assumption) (by decide) (by rfl) dX5_send_92 ?_
      refine a_aload_n (pc := 95) dX5_send_95 rfl rfl ?_
      refine a_getr (pc := 96) fl_X5_12 (by assumption) (by decide) (by rfl) dX5_send_96 ?_
      refine a_getr (pc := 99) fl_X5_105 (by assumption) (by decide) (by rfl) dX5_send_99 ?_
      refine a_iconst (pc := 102) (v := 0) dX5_send_102 (by decide) ?_
      refine a_iald (pc := 103) (j := 0) (by assumption) rfl (by omega) (by decide) dX5_send_103 ?_
      refine a_icmp_ge (pc := 104) (tgt := 111) dX5_send_104 (by decide) (fun c_104 => ?_) (fun c_104 => ?_)
      · refine a_iconst (pc := 111) (v := 0) dX5_send_111 (by decide) ?_
        refine a_putx (pc := 112) fp_X5_66 (by rfl) (by rfl) (by assumption) (by decide) (by rfl) dX5_send_112 ?_
        refine a_vret (pc := 115) rfl dX5_send_115 ?_
        simp_all [sndF, sndA, putF, up2, upd, -Int32.not_lt, -Int32.not_le]
      · refine a_iconst (pc := 107) (v := 1) dX5_send_107 (by decide) ?_
        refine a_goto (pc := 108) (tgt := 112) dX5_send_108 (by decide) ?_
        refine a_putx (pc := 112) fp_X5_66 (by rfl) (by rfl) (by assumption) (by decide) (by rfl) dX5_send_112 ?_
        refine a_vret (pc := 115) rfl dX5_send_115 ?_
        simp_all [sndF, sndA, putF, up2, upd, -Int32.not_lt, -Int32.not_le]

def awtF (μ : Mem) (o : Nat) : Mem := if μ (o + 7) 0 = 1 then up2 μ o 9 2 else if μ (o + 7) 0 = 3 ∧ μ o 10 = 0 then up2 μ o 9 4 else μ
set_option maxHeartbeats 4000000 in
set_option maxRecDepth 100000 in
theorem c_X5_awaitAnswer {μ : Mem} {o : Nat} (h : isSt o) : Con shC mX5_awaitAnswer [.ref o] μ (fun _ u => u = awtF μ o) := by
  obtain ⟨h0, hrow, hmem, hs6, hs7⟩ := id h
  have h1 : shC[o + 1]? = some (0, 3, [none, some (o + 2), some (o + 3)]) := hrow.1
  have h2 : shC[o + 2]? = some (100, 6, []) := hrow.2.1
  have h3 : shC[o + 3]? = some (100, 6, []) := hrow.2.2
  have h4 : shC[o + 4]? = some (1, 2, [none, some (o + 5)]) := hmem.1
  have h5 : shC[o + 5]? = some (100, 24, []) := hmem.2
  have h6 : shC[o + 6]? = _ := hs6
  have h7 : shC[o + 7]? = _ := hs7
  refine Con.ofAW (al0 := [some (.ref o)]) (by decide) rfl (Nat.le_of_ble_eq_true rfl) rfl ?_
  refine a_aload_n (pc := 0) dX5_awaitAnswer_0 rfl rfl ?_
  refine a_getr (pc := 1) fl_X5_32 (by assumption) (by decide) (by rfl) dX5_awaitAnswer_1 ?_
  refine a_geti (pc := 4) fl_X5_112 (by assumption) (by decide) (by rfl) dX5_awaitAnswer_4 ?_
  refine a_iconst (pc := 7) (v := 1) dX5_awaitAnswer_7 (by decide) ?_
  refine a_icmp_ne (pc := 8) (tgt := 19) dX5_awaitAnswer_8 (by decide) (fun c_8 => ?_) (fun c_8 => ?_)
  · refine a_aload_n (pc := 19) dX5_awaitAnswer_19 rfl rfl ?_
    refine a_getr (pc := 20) fl_X5_32 (by assumption) (by decide) (by rfl) dX5_awaitAnswer_20 ?_
    refine a_geti (pc := 23) fl_X5_112 (by assumption) (by decide) (by rfl) dX5_awaitAnswer_23 ?_
    refine a_iconst (pc := 26) (v := 3) dX5_awaitAnswer_26 (by decide) ?_
    refine a_icmp_ne (pc := 27) (tgt := 42) dX5_awaitAnswer_27 (by decide) (fun c_27 => ?_) (fun c_27 => ?_)
    · refine a_vret (pc := 42) rfl dX5_awaitAnswer_42 ?_
      simp_all [awtF]
    · refine a_aload_n (pc := 30) dX5_awaitAnswer_30 rfl rfl ?_
      refine a_geti (pc := 31) fl_X5_66 (by assumption) (by decide) (by rfl) dX5_awaitAnswer_31 ?_
      refine a_if_ne (pc := 34) (tgt := 42) dX5_awaitAnswer_34 (by decide) (fun c_34 => ?_) (fun c_34 => ?_)
      · refine a_vret (pc := 42) rfl dX5_awaitAnswer_42 ?_
        simp_all [awtF]
      · refine a_aload_n (pc := 37) dX5_awaitAnswer_37 rfl rfl ?_
        refine a_iconst (pc := 38) (v := 4) dX5_awaitAnswer_38 (by decide) ?_
        refine a_puti (pc := 39) fp_X5_63 (by assumption) (by decide) (by rfl) dX5_awaitAnswer_39 ?_
        refine a_vret (pc := 42) rfl dX5_awaitAnswer_42 ?_
        simp_all [awtF]
  · refine a_aload_n (pc := 11) dX5_awaitAnswer_11 rfl rfl ?_
    refine a_iconst (pc := 12) (v := 2) dX5_awaitAnswer_12 (by decide) ?_
    refine a_puti (pc := 13) fp_X5_63 (by assumption) (by decide) (by rfl) dX5_awaitAnswer_13 ?_
    refine a_goto (pc := 16) (tgt := 42) dX5_awaitAnswer_16 (by decide) ?_
    refine a_vret (pc := 42) rfl dX5_awaitAnswer_42 ?_
    simp_all [awtF]

def mAdd (μ : Mem) (o h : Nat) (a b c d : Int32) : Mem := if h = 6 then mem6F μ o a b c d else memF μ o h a b c d
theorem c_X1_addA {μ : Mem} {o h : Nat} {a b c d : Int32} (hm : isMem o) (hs : μ o 0 = nI h) (hl : h ≤ 6) : Con shC mX1_add [.ref o, .int a, .int b, .int c, .int d] μ (fun _ u => u = mAdd μ o h a b c d) := by
  unfold mAdd
  by_cases e : h = 6
  · rw [if_pos e]; subst e; exact c_X1_add6 hm hs
  · rw [if_neg e]; exact c_X1_add hm hs (by omega)
def morF (k l p : Int32) : Int32 := if k = 1 then l + 2 else if k = 2 then l + 1 else if k = 3 then l - p else 0
def ovhF (μ : Mem) (o h : Nat) (s fr : Int32) (g : Nat) : Mem := up2 (mAdd μ (o + 4) h s fr (μ g 1) (μ g 0)) o 4 (if μ o 4 < s + morF (μ g 0) (μ g 2) (μ g 3) then s + morF (μ g 0) (μ g 2) (μ g 3) else μ o 4)
theorem mAdd_ne {μ : Mem} {o h x : Nat} {a b c d : Int32} (h1 : x ≠ o) (h2 : x ≠ o + 1) : mAdd μ o h a b c d x = μ x := by
  unfold mAdd
  split
  · simp [mem6F, memF, up2, upA, h1, h2]
  · simp [memF, up2, h1, h2]
set_option maxHeartbeats 4000000 in
set_option maxRecDepth 100000 in
theorem c_X5_overhear {μ : Mem} {o g hh : Nat} {s fr : Int32} (h : isSt o) (hg : isSig g) (hd : g < o ∨ o + 7 < g) (hs : μ (o + 4) 0 = nI hh) (hl : hh ≤ 6) : Con shC mX5_overhear [.ref o, .int s, .int fr, .ref g] μ (fun _ u => u = ovhF μ o hh s fr g) := by
  obtain ⟨h0, hrow, hmem, hs6, hs7⟩ := id h
  have h1 : shC[o + 1]? = some (0, 3, [none, some (o + 2), some (o + 3)]) := hrow.1
  have h2 : shC[o + 2]? = some (100, 6, []) := hrow.2.1
  have h3 : shC[o + 3]? = some (100, 6, []) := hrow.2.2
  have h4 : shC[o + 4]? = some (1, 2, [none, some (o + 5)]) := hmem.1
  have h5 : shC[o + 5]? = some (100, 24, []) := hmem.2
  have h6 : shC[o + 6]? = _ := hs6
  have h7 : shC[o + 7]? = _ := hs7
  have hg0 : shC[g]? = _ := hg
  have n0 : g ≠ o := by omega
  have n6 : g ≠ o + 6 := by omega
  have n4 : g ≠ o + 4 := by omega
  have n5 : g ≠ o + 5 := by omega
  have n51 : g ≠ o + 4 + 1 := by omega
  have e1 : mAdd μ (o + 4) hh s fr (μ g 1) (μ g 0) g = μ g := mAdd_ne n4 n51
  have e2 : mAdd μ (o + 4) hh s fr (μ g 1) (μ g 0) o = μ o := mAdd_ne (by omega) (by omega)
  refine Con.ofAW (al0 := [some (.ref o), some (.int s), some (.int fr), some (.ref g), none]) (by decide) rfl (Nat.le_of_ble_eq_true rfl) rfl ?_
  refine a_aload_n (pc := 0) dX5_overhear_0 rfl rfl ?_
  refine a_getr (pc := 1) fl_X5_21 (by assumption) (by decide) (by rfl) dX5_overhear_1 ?_
  refine a_iload_n (pc := 4) dX5_overhear_4 rfl rfl ?_
  refine a_iload_n (pc := 5) dX5_overhear_5 rfl rfl ?_
  refine a_aload_n (pc := 6) dX5_overhear_6 rfl rfl ?_
  refine a_geti (pc := 7) fl_X5_115 (by assumption) (by decide) (by rfl) dX5_overhear_7 ?_
  refine a_aload_n (pc := 10) dX5_overhear_10 rfl rfl ?_
  refine a_geti (pc := 11) fl_X5_112 (by assumption) (by decide) (by rfl) dX5_overhear_11 ?_
  refine a_callV4 (pc := 14) ck_X5_117 ⟨(Nat.le_of_ble_eq_true rfl), (Nat.le_of_ble_eq_true rfl)⟩ (by assumption) (by decide) (Nat.le_of_ble_eq_true rfl) dX5_overhear_14 rfl (c_X1_addA hmem hs hl) ?_
  rintro u rfl
  refine a_iconst (pc := 17) (v := 0) dX5_overhear_17 (by decide) ?_
  refine a_istore (pc := 18) (al' := [some (.ref _), some (.int _), some (.int _), some (.ref _), some (.int _)]) dX5_overhear_18 (by decide) rfl rfl ?_
  refine a_aload_n (pc := 20) dX5_overhear_20 rfl rfl ?_
  refine a_geti (pc := 21) fl_X5_112 (by assumption) (by decide) (by rfl) dX5_overhear_21 ?_
  refine a_iconst (pc := 24) (v := 1) dX5_overhear_24 (by decide) ?_
  refine a_icmp_ne (pc := 25) (tgt := 39) dX5_overhear_25 (by decide) (fun c_25 => ?_) (fun c_25 => ?_)
  · refine a_aload_n (pc := 39) dX5_overhear_39 rfl rfl ?_
    refine a_geti (pc := 40) fl_X5_112 (by assumption) (by decide) (by rfl) dX5_overhear_40 ?_
    refine a_iconst (pc := 43) (v := 2) dX5_overhear_43 (by decide) ?_
    refine a_icmp_ne (pc := 44) (tgt := 58) dX5_overhear_44 (by decide) (fun c_44 => ?_) (fun c_44 => ?_)
    · refine a_aload_n (pc := 58) dX5_overhear_58 rfl rfl ?_
      refine a_geti (pc := 59) fl_X5_112 (by assumption) (by decide) (by rfl) dX5_overhear_59 ?_
      refine a_iconst (pc := 62) (v := 3) dX5_overhear_62 (by decide) ?_
      refine a_icmp_ne (pc := 63) (tgt := 77) dX5_overhear_63 (by decide) (fun c_63 => ?_) (fun c_63 => ?_)
      · refine a_aload_n (pc := 77) dX5_overhear_77 rfl rfl ?_
        refine a_aload_n (pc := 78) dX5_overhear_78 rfl rfl ?_
        refine a_geti (pc := 79) fl_X5_48 (by assumption) (by decide) (by rfl) dX5_overhear_79 ?_
        refine a_iload_n (pc := 82) dX5_overhear_82 rfl rfl ?_
        refine a_iload (pc := 83) dX5_overhear_83 rfl ?_
        refine a_iadd (pc := 85) dX5_overhear_85 ?_
        refine a_mmax (pc := 86) nl_X5_125 nw_max1 nw_math nw_max3 (Nat.le_of_ble_eq_true rfl) (Nat.le_of_ble_eq_true rfl) dX5_overhear_86 ?_
        refine a_puti (pc := 89) fp_X5_48 (by assumption) (by decide) (by rfl) dX5_overhear_89 ?_
        refine a_vret (pc := 92) rfl dX5_overhear_92 ?_
        simp_all [ovhF, morF, -Int32.not_lt, -Int32.not_le]
      · refine a_aload_n (pc := 66) dX5_overhear_66 rfl rfl ?_
        refine a_geti (pc := 67) fl_X5_120 (by assumption) (by decide) (by rfl) dX5_overhear_67 ?_
        refine a_aload_n (pc := 70) dX5_overhear_70 rfl rfl ?_
        refine a_geti (pc := 71) fl_X5_122 (by assumption) (by decide) (by rfl) dX5_overhear_71 ?_
        refine a_isub (pc := 74) dX5_overhear_74 ?_
        refine a_istore (pc := 75) (al' := [some (.ref _), some (.int _), some (.int _), some (.ref _), some (.int _)]) dX5_overhear_75 (by decide) rfl rfl ?_
        refine a_aload_n (pc := 77) dX5_overhear_77 rfl rfl ?_
        refine a_aload_n (pc := 78) dX5_overhear_78 rfl rfl ?_
        refine a_geti (pc := 79) fl_X5_48 (by assumption) (by decide) (by rfl) dX5_overhear_79 ?_
        refine a_iload_n (pc := 82) dX5_overhear_82 rfl rfl ?_
        refine a_iload (pc := 83) dX5_overhear_83 rfl ?_
        refine a_iadd (pc := 85) dX5_overhear_85 ?_
        refine a_mmax (pc := 86) nl_X5_125 nw_max1 nw_math nw_max3 (Nat.le_of_ble_eq_true rfl) (Nat.le_of_ble_eq_true rfl) dX5_overhear_86 ?_
        refine a_puti (pc := 89) fp_X5_48 (by assumption) (by decide) (by rfl) dX5_overhear_89 ?_
        refine a_vret (pc := 92) rfl dX5_overhear_92 ?_
        simp_all [ovhF, morF, -Int32.not_lt, -Int32.not_le]
    · refine a_aload_n (pc := 47) dX5_overhear_47 rfl rfl ?_
      refine a_geti (pc := 48) fl_X5_120 (by assumption) (by decide) (by rfl) dX5_overhear_48 ?_
      refine a_iconst (pc := 51) (v := 1) dX5_overhear_51 (by decide) ?_
      refine a_iadd (pc := 52) dX5_overhear_52 ?_
      refine a_istore (pc := 53) (al' := [some (.ref _), some (.int _), some (.int _), some (.ref _), some (.int _)]) dX5_overhear_53 (by decide) rfl rfl ?_
      refine a_goto (pc := 55) (tgt := 77) dX5_overhear_55 (by decide) ?_
      refine a_aload_n (pc := 77) dX5_overhear_77 rfl rfl ?_
      refine a_aload_n (pc := 78) dX5_overhear_78 rfl rfl ?_
      refine a_geti (pc := 79) fl_X5_48 (by assumption) (by decide) (by rfl) dX5_overhear_79 ?_
      refine a_iload_n (pc := 82) dX5_overhear_82 rfl rfl ?_
      refine a_iload (pc := 83) dX5_overhear_83 rfl ?_
      refine a_iadd (pc := 85) dX5_overhear_85 ?_
      refine a_mmax (pc := 86) nl_X5_125 nw_max1 nw_math nw_max3 (Nat.le_of_ble_eq_true rfl) (Nat.le_of_ble_eq_true rfl) dX5_overhear_86 ?_
      refine a_puti (pc := 89) fp_X5_48 (by assumption) (by decide) (by rfl) dX5_overhear_89 ?_
      refine a_vret (pc := 92) rfl dX5_overhear_92 ?_
      simp_all [ovhF, morF, -Int32.not_lt, -Int32.not_le]
  · refine a_aload_n (pc := 28) dX5_overhear_28 rfl rfl ?_
    refine a_geti (pc := 29) fl_X5_120 (by assumption) (by decide) (by rfl) dX5_overhear_29 ?_
    refine a_iconst (pc := 32) (v := 2) dX5_overhear_32 (by decide) ?_
    refine a_iadd (pc := 33) dX5_overhear_33 ?_
    refine a_istore (pc := 34) (al' := [some (.ref _), some (.int _), some (.int _), some (.ref _), some (.int _)]) dX5_overhear_34 (by decide) rfl rfl ?_
    refine a_goto (pc := 36) (tgt := 77) dX5_overhear_36 (by decide) ?_
    refine a_aload_n (pc := 77) dX5_overhear_77 rfl rfl ?_
    refine a_aload_n (pc := 78) dX5_overhear_78 rfl rfl ?_
    refine a_geti (pc := 79) fl_X5_48 (by assumption) (by decide) (by rfl) dX5_overhear_79 ?_
    refine a_iload_n (pc := 82) dX5_overhear_82 rfl rfl ?_
    refine a_iload (pc := 83) dX5_overhear_83 rfl ?_
    refine a_iadd (pc := 85) dX5_overhear_85 ?_
    refine a_mmax (pc := 86) nl_X5_125 nw_max1 nw_math nw_max3 (Nat.le_of_ble_eq_true rfl) (Nat.le_of_ble_eq_true rfl) dX5_overhear_86 ?_
    refine a_puti (pc := 89) fp_X5_48 (by assumption) (by decide) (by rfl) dX5_overhear_89 ?_
    refine a_vret (pc := 92) rfl dX5_overhear_92 ?_
    simp_all [ovhF, morF, -Int32.not_lt, -Int32.not_le]

def tpF (μ : Mem) (o : Nat) (s fr : Int32) (g : Nat) : Mem := if μ g 3 = 0 ∨ (μ o 12 = fr ∧ μ o 13 = μ g 3 ∧ μ o 14 = s - 1) then (if μ g 3 + 1 = μ g 2 then putF (up2 (up2 (up2 μ o 12 fr) o 13 (μ g 3 + 1)) o 14 s) (o + 6) 4 fr (μ g 2) 0 else up2 (up2 (up2 μ o 12 fr) o 13 (μ g 3 + 1)) o 14 s) else μ
set_option maxHeartbeats 4000000 in
set_option maxRecDepth 100000 in
theorem c_X5_takePart {μ : Mem} {o g : Nat} {s fr : Int32} (h : isSt o) (hg : isSig g) (hd : g < o ∨ o + 7 < g) : Con shC mX5_takePart [.ref o, .int s, .int fr, .ref g] μ (fun _ u => u = tpF μ o s fr g) := by
  obtain ⟨h0, hrow, hmem, hs6, hs7⟩ := id h
  have h1 : shC[o + 1]? = some (0, 3, [none, some (o + 2), some (o + 3)]) := hrow.1
  have h2 : shC[o + 2]? = some (100, 6, []) := hrow.2.1
  have h3 : shC[o + 3]? = some (100, 6, []) := hrow.2.2
  have h4 : shC[o + 4]? = some (1, 2, [none, some (o + 5)]) := hmem.1
  have h5 : shC[o + 5]? = some (100, 24, []) := hmem.2
  have h6 : shC[o + 6]? = _ := hs6
  have h7 : shC[o + 7]? = _ := hs7
  have hg0 : shC[g]? = _ := hg
  have n0 : g ≠ o := by omega
  have n6 : g ≠ o + 6 := by omega
  have n4 : g ≠ o + 4 := by omega
  have n5 : g ≠ o + 5 := by omega
  refine Con.ofAW (al0 := [some (.ref o), some (.int s), some (.int fr), some (.ref g), none]) (by decide) rfl (Nat.le_of_ble_eq_true rfl) rfl ?_
  refine a_aload_n (pc := 0) dX5_takePart_0 rfl rfl ?_
  refine a_geti (pc := 1) fl_X5_73 (by assumption) (by decide) (by rfl) dX5_takePart_1 ?_
  refine a_iload_n (pc := 4) dX5_takePart_4 rfl rfl ?_
  refine a_icmp_ne (pc := 5) (tgt := 33) dX5_takePart_5 (by decide) (fun c_5 => ?_) (fun c_5 => ?_)
  · refine a_iconst (pc := 33) (v := 0) dX5_takePart_33 (by decide) ?_
    refine a_istore (pc := 34) (al' := [some (.ref _), some (.int _), some (.int _), some (.ref _), some (.int _)]) dX5_takePart_34 (by decide) rfl rfl ?_
    refine a_aload_n (pc := 36) dX5_takePart_36 rfl rfl ?_
    refine a_geti (pc := 37) fl_X5_122 (by assumption) (by decide) (by rfl) dX5_takePart_37 ?_
    refine a_if_eq (pc := 40) (tgt := 49) dX5_takePart_40 (by decide) (fun c_40 => ?_) (fun c_40 => ?_)
    · refine a_aload_n (pc := 49) dX5_takePart_49 rfl rfl ?_
      refine a_iload_n (pc := 50) dX5_takePart_50 rfl rfl ?_
      refine a_puti (pc := 51) fp_X5_73 (by assumption) (by decide) (by rfl) dX5_takePart_51 ?_
      refine a_aload_n (pc := 54) dX5_takePart_54 rfl rfl ?_
      refine a_aload_n (pc := 55) dX5_takePart_55 rfl rfl ?_
      refine a_geti (pc := 56) fl_X5_122 (by assumption) (by decide) (by rfl) dX5_takePart_56 ?_
      refine a_iconst (pc := 59) (v := 1) dX5_takePart_59 (by decide) ?_
      refine a_iadd (pc := 60) dX5_takePart_60 ?_
      refine a_puti (pc := 61) fp_X5_76 (by assumption) (by decide) (by rfl) dX5_takePart_61 ?_
      refine a_aload_n (pc := 64) dX5_takePart_64 rfl rfl ?_
      refine a_iload_n (pc := 65) dX5_takePart_65 rfl rfl ?_
      refine a_puti (pc := 66) fp_X5_79 (by assumption) (by decide) (by rfl) dX5_takePart_66 ?_
      refine a_aload_n (pc := 69) dX5_takePart_69 rfl rfl ?_
      refine a_geti (pc := 70) fl_X5_76 (by assumption) (by decide) (by rfl) dX5_takePart_70 ?_
      refine a_aload_n (pc := 73) dX5_takePart_73 rfl rfl ?_
      refine a_geti (pc := 74) fl_X5_120 (by assumption) (by decide) (by rfl) dX5_takePart_74 ?_
      refine a_icmp_ne (pc := 77) (tgt := 94) dX5_takePart_77 (by decide) (fun c_77 => ?_) (fun c_77 => ?_)
      · refine a_vret (pc := 94) rfl dX5_takePart_94 ?_
        simp_all [tpF, putF, up2, upd, -Int32.not_lt, -Int32.not_le]
      · refine a_aload_n (pc := 80) dX5_takePart_80 rfl rfl ?_
        refine a_getr (pc := 81) fl_X5_28 (by assumption) (by decide) (by rfl) dX5_takePart_81 ?_
        refine a_iconst (pc := 84) (v := 4) dX5_takePart_84 (by decide) ?_
        refine a_iload_n (pc := 85) dX5_takePart_85 rfl rfl ?_
        refine a_aload_n (pc := 86) dX5_takePart_86 rfl rfl ?_
        refine a_geti (pc := 87) fl_X5_120 (by assumption) (by decide) (by rfl) dX5_takePart_87 ?_
        refine a_iconst (pc := 90) (v := 0) dX5_takePart_90 (by decide) ?_
        refine a_callV4 (pc := 91) ck_X5_108 ⟨(Nat.le_of_ble_eq_true rfl), (Nat.le_of_ble_eq_true rfl)⟩ (by assumption) (by decide) (Nat.le_of_ble_eq_true rfl) dX5_takePart_91 rfl (c_X4_put (by assumption)) ?_
        rintro u rfl
        refine a_vret (pc := 94) rfl dX5_takePart_94 ?_
        simp_all [tpF, putF, up2, upd, -Int32.not_lt, -Int32.not_le]
    · refine a_iload (pc := 43) dX5_takePart_43 rfl ?_
      refine a_if_ne (pc := 45) (tgt := 49) dX5_takePart_45 (by decide) (fun c_45 => ?_) (fun c_45 => ?_)
      · refine a_aload_n (pc := 49) dX5_takePart_49 rfl rfl ?_
        refine a_iload_n (pc := 50) dX5_takePart_50 rfl rfl ?_
        refine a_puti (pc := 51) fp_X5_73 (by assumption) (by decide) (by rfl) dX5_takePart_51 ?_
        refine a_aload_n (pc := 54) dX5_takePart_54 rfl rfl ?_
        refine a_aload_n (pc := 55) dX5_takePart_55 rfl rfl ?_
        refine a_geti (pc := 56) fl_X5_122 (by assumption) (by decide) (by rfl) dX5_takePart_56 ?_
        refine a_iconst (pc := 59) (v := 1) dX5_takePart_59 (by decide) ?_
        refine a_iadd (pc := 60) dX5_takePart_60 ?_
        refine a_puti (pc := 61) fp_X5_76 (by assumption) (by decide) (by rfl) dX5_takePart_61 ?_
        refine a_aload_n (pc := 64) dX5_takePart_64 rfl rfl ?_
        refine a_iload_n (pc := 65) dX5_takePart_65 rfl rfl ?_
        refine a_puti (pc := 66) fp_X5_79 (by assumption) (by decide) (by rfl) dX5_takePart_66 ?_
        refine a_aload_n (pc := 69) dX5_takePart_69 rfl rfl ?_
        refine a_geti (pc := 70) fl_X5_76 (by assumption) (by decide) (by rfl) dX5_takePart_70 ?_
        refine a_aload_n (pc := 73) dX5_takePart_73 rfl rfl ?_
        refine a_geti (pc := 74) fl_X5_120 (by assumption) (by decide) (by rfl) dX5_takePart_74 ?_
        refine a_icmp_ne (pc := 77) (tgt := 94) dX5_takePart_77 (by decide) (fun c_77 => ?_) (fun c_77 => ?_)
        · refine a_vret (pc := 94) rfl dX5_takePart_94 ?_
          simp_all [tpF, putF, up2, upd, -Int32.not_lt, -Int32.not_le]
        · refine a_aload_n (pc := 80) dX5_takePart_80 rfl rfl ?_
          refine a_getr (pc := 81) fl_X5_28 (by assumption) (by decide) (by rfl) dX5_takePart_81 ?_
          refine a_iconst (pc := 84) (v := 4) dX5_takePart_84 (by decide) ?_
          refine a_iload_n (pc := 85) dX5_takePart_85 rfl rfl ?_
          refine a_aload_n (pc := 86) dX5_takePart_86 rfl rfl ?_
          refine a_geti (pc := 87) fl_X5_120 (by assumption) (by decide) (by rfl) dX5_takePart_87 ?_
          refine a_iconst (pc := 90) (v := 0) dX5_takePart_90 (by decide) ?_
          refine a_callV4 (pc := 91) ck_X5_108 ⟨(Nat.le_of_ble_eq_true rfl), (Nat.le_of_ble_eq_true rfl)⟩ (by assumption) (by decide) (Nat.le_of_ble_eq_true rfl) dX5_takePart_91 rfl (c_X4_put (by assumption)) ?_
          rintro u rfl
          refine a_vret (pc := 94) rfl dX5_takePart_94 ?_
          simp_all [tpF, putF, up2, upd, -Int32.not_lt, -Int32.not_le]
      · refine a_vret (pc := 48) rfl dX5_takePart_48 ?_
        simp_all [tpF, putF, up2, upd, -Int32.not_lt, -Int32.not_le]
  · refine a_aload_n (pc := 8) dX5_takePart_8 rfl rfl ?_
    refine a_geti (pc := 9) fl_X5_76 (by assumption) (by decide) (by rfl) dX5_takePart_9 ?_
    refine a_aload_n (pc := 12) dX5_takePart_12 rfl rfl ?_
    refine a_geti (pc := 13) fl_X5_122 (by assumption) (by decide) (by rfl) dX5_takePart_13 ?_
    refine a_icmp_ne (pc := 16) (tgt := 33) dX5_takePart_16 (by decide) (fun c_16 => ?_) (fun c_16 => ?_)
    · refine a_iconst (pc := 33) (v := 0) dX5_takePart_33 (by decide) ?_
      refine a_istore (pc := 34) (al' := [some (.ref _), some (.int _), some (.int _), some (.ref _), some (.int _)]) dX5_takePart_34 (by decide) rfl rfl ?_
      refine a_aload_n (pc := 36) dX5_takePart_36 rfl rfl ?_
      refine a_geti (pc := 37) fl_X5_122 (by assumption) (by decide) (by rfl) dX5_takePart_37 ?_
      refine a_if_eq (pc := 40) (tgt := 49) dX5_takePart_40 (by decide) (fun c_40 => ?_) (fun c_40 => ?_)
      · refine a_aload_n (pc := 49) dX5_takePart_49 rfl rfl ?_
        refine a_iload_n (pc := 50) dX5_takePart_50 rfl rfl ?_
        refine a_puti (pc := 51) fp_X5_73 (by assumption) (by decide) (by rfl) dX5_takePart_51 ?_
        refine a_aload_n (pc := 54) dX5_takePart_54 rfl rfl ?_
        refine a_aload_n (pc := 55) dX5_takePart_55 rfl rfl ?_
        refine a_geti (pc := 56) fl_X5_122 (by assumption) (by decide) (by rfl) dX5_takePart_56 ?_
        refine a_iconst (pc := 59) (v := 1) dX5_takePart_59 (by decide) ?_
        refine a_iadd (pc := 60) dX5_takePart_60 ?_
        refine a_puti (pc := 61) fp_X5_76 (by assumption) (by decide) (by rfl) dX5_takePart_61 ?_
        refine a_aload_n (pc := 64) dX5_takePart_64 rfl rfl ?_
        refine a_iload_n (pc := 65) dX5_takePart_65 rfl rfl ?_
        refine a_puti (pc := 66) fp_X5_79 (by assumption) (by decide) (by rfl) dX5_takePart_66 ?_
        refine a_aload_n (pc := 69) dX5_takePart_69 rfl rfl ?_
        refine a_geti (pc := 70) fl_X5_76 (by assumption) (by decide) (by rfl) dX5_takePart_70 ?_
        refine a_aload_n (pc := 73) dX5_takePart_73 rfl rfl ?_
        refine a_geti (pc := 74) fl_X5_120 (by assumption) (by decide) (by rfl) dX5_takePart_74 ?_
        refine a_icmp_ne (pc := 77) (tgt := 94) dX5_takePart_77 (by decide) (fun c_77 => ?_) (fun c_77 => ?_)
        · refine a_vret (pc := 94) rfl dX5_takePart_94 ?_
          simp_all [tpF, putF, up2, upd, -Int32.not_lt, -Int32.not_le]
        · refine a_aload_n (pc := 80) dX5_takePart_80 rfl rfl ?_
          refine a_getr (pc := 81) fl_X5_28 (by assumption) (by decide) (by rfl) dX5_takePart_81 ?_
          refine a_iconst (pc := 84) (v := 4) dX5_takePart_84 (by decide) ?_
          refine a_iload_n (pc := 85) dX5_takePart_85 rfl rfl ?_
          refine a_aload_n (pc := 86) dX5_takePart_86 rfl rfl ?_
          refine a_geti (pc := 87) fl_X5_120 (by assumption) (by decide) (by rfl) dX5_takePart_87 ?_
          refine a_iconst (pc := 90) (v := 0) dX5_takePart_90 (by decide) ?_
          refine a_callV4 (pc := 91) ck_X5_108 ⟨(Nat.le_of_ble_eq_true rfl), (Nat.le_of_ble_eq_true rfl)⟩ (by assumption) (by decide) (Nat.le_of_ble_eq_true rfl) dX5_takePart_91 rfl (c_X4_put (by assumption)) ?_
          rintro u rfl
          refine a_vret (pc := 94) rfl dX5_takePart_94 ?_
          simp_all [tpF, putF, up2, upd, -Int32.not_lt, -Int32.not_le]
      · refine a_iload (pc := 43) dX5_takePart_43 rfl ?_
        refine a_if_ne (pc := 45) (tgt := 49) dX5_takePart_45 (by decide) (fun c_45 => ?_) (fun c_45 => ?_)
        · refine a_aload_n (pc := 49) dX5_takePart_49 rfl rfl ?_
          refine a_iload_n (pc := 50) dX5_takePart_50 rfl rfl ?_
          refine a_puti (pc := 51) fp_X5_73 (by assumption) (by decide) (by rfl) dX5_takePart_51 ?_
          refine a_aload_n (pc := 54) dX5_takePart_54 rfl rfl ?_
          refine a_aload_n (pc := 55) dX5_takePart_55 rfl rfl ?_
          refine a_geti (pc := 56) fl_X5_122 (by assumption) (by decide) (by rfl) dX5_takePart_56 ?_
          refine a_iconst (pc := 59) (v := 1) dX5_takePart_59 (by decide) ?_
          refine a_iadd (pc := 60) dX5_takePart_60 ?_
          refine a_puti (pc := 61) fp_X5_76 (by assumption) (by decide) (by rfl) dX5_takePart_61 ?_
          refine a_aload_n (pc := 64) dX5_takePart_64 rfl rfl ?_
          refine a_iload_n (pc := 65) dX5_takePart_65 rfl rfl ?_
          refine a_puti (pc := 66) fp_X5_79 (by assumption) (by decide) (by rfl) dX5_takePart_66 ?_
          refine a_aload_n (pc := 69) dX5_takePart_69 rfl rfl ?_
          refine a_geti (pc := 70) fl_X5_76 (by assumption) (by decide) (by rfl) dX5_takePart_70 ?_
          refine a_aload_n (pc := 73) dX5_takePart_73 rfl rfl ?_
          refine a_geti (pc := 74) fl_X5_120 (by assumption) (by decide) (by rfl) dX5_takePart_74 ?_
          refine a_icmp_ne (pc := 77) (tgt := 94) dX5_takePart_77 (by decide) (fun c_77 => ?_) (fun c_77 => ?_)
          · refine a_vret (pc := 94) rfl dX5_takePart_94 ?_
            simp_all [tpF, putF, up2, upd, -Int32.not_lt, -Int32.not_le]
          · refine a_aload_n (pc := 80) dX5_takePart_80 rfl rfl ?_
            refine a_getr (pc := 81) fl_X5_28 (by assumption) (by decide) (by rfl) dX5_takePart_81 ?_
            refine a_iconst (pc := 84) (v := 4) dX5_takePart_84 (by decide) ?_
            refine a_iload_n (pc := 85) dX5_takePart_85 rfl rfl ?_
            refine a_aload_n (pc := 86) dX5_takePart_86 rfl rfl ?_
            refine a_geti (pc := 87) fl_X5_120 (by assumption) (by decide) (by rfl) dX5_takePart_87 ?_
            refine a_iconst (pc := 90) (v := 0) dX5_takePart_90 (by decide) ?_
            refine a_callV4 (pc := 91) ck_X5_108 ⟨(Nat.le_of_ble_eq_true rfl), (Nat.le_of_ble_eq_true rfl)⟩ (by assumption) (by decide) (Nat.le_of_ble_eq_true rfl) dX5_takePart_91 rfl (c_X4_put (by assumption)) ?_
            rintro u rfl
            refine a_vret (pc := 94) rfl dX5_takePart_94 ?_
            simp_all [tpF, putF, up2, upd, -Int32.not_lt, -Int32.not_le]
        · refine a_vret (pc := 48) rfl dX5_takePart_48 ?_
          simp_all [tpF, putF, up2, upd, -Int32.not_lt, -Int32.not_le]
    · refine a_aload_n (pc := 19) dX5_takePart_19 rfl rfl ?_
      refine a_geti (pc := 20) fl_X5_79 (by assumption) (by decide) (by rfl) dX5_takePart_20 ?_
      refine a_iload_n (pc := 23) dX5_takePart_23 rfl rfl ?_
      refine a_iconst (pc := 24) (v := 1) dX5_takePart_24 (by decide) ?_
      refine a_isub (pc := 25) dX5_takePart_25 ?_
      refine a_icmp_ne (pc := 26) (tgt := 33) dX5_takePart_26 (by decide) (fun c_26 => ?_) (fun c_26 => ?_)
      · refine a_iconst (pc := 33) (v := 0) dX5_takePart_33 (by decide) ?_
        refine a_istore (pc := 34) (al' := [some (.ref _), some (.int _), some (.int _), some (.ref _), some (.int _)]) dX5_takePart_34 (by decide) rfl rfl ?_
        refine a_aload_n (pc := 36) dX5_takePart_36 rfl rfl ?_
        refine a_geti (pc := 37) fl_X5_122 (by assumption) (by decide) (by rfl) dX5_takePart_37 ?_
        refine a_if_eq (pc := 40) (tgt := 49) dX5_takePart_40 (by decide) (fun c_40 => ?_) (fun c_40 => ?_)
        · refine a_aload_n (pc := 49) dX5_takePart_49 rfl rfl ?_
          refine a_iload_n (pc := 50) dX5_takePart_50 rfl rfl ?_
          refine a_puti (pc := 51) fp_X5_73 (by assumption) (by decide) (by rfl) dX5_takePart_51 ?_
          refine a_aload_n (pc := 54) dX5_takePart_54 rfl rfl ?_
          refine a_aload_n (pc := 55) dX5_takePart_55 rfl rfl ?_
          refine a_geti (pc := 56) fl_X5_122 (by assumption) (by decide) (by rfl) dX5_takePart_56 ?_
          refine a_iconst (pc := 59) (v := 1) dX5_takePart_59 (by decide) ?_
          refine a_iadd (pc := 60) dX5_takePart_60 ?_
          refine a_puti (pc := 61) fp_X5_76 (by assumption) (by decide) (by rfl) dX5_takePart_61 ?_
          refine a_aload_n (pc := 64) dX5_takePart_64 rfl rfl ?_
          refine a_iload_n (pc := 65) dX5_takePart_65 rfl rfl ?_
          refine a_puti (pc := 66) fp_X5_79 (by assumption) (by decide) (by rfl) dX5_takePart_66 ?_
          refine a_aload_n (pc := 69) dX5_takePart_69 rfl rfl ?_
          refine a_geti (pc := 70) fl_X5_76 (by assumption) (by decide) (by rfl) dX5_takePart_70 ?_
          refine a_aload_n (pc := 73) dX5_takePart_73 rfl rfl ?_
          refine a_geti (pc := 74) fl_X5_120 (by assumption) (by decide) (by rfl) dX5_takePart_74 ?_
          refine a_icmp_ne (pc := 77) (tgt := 94) dX5_takePart_77 (by decide) (fun c_77 => ?_) (fun c_77 => ?_)
          · refine a_vret (pc := 94) rfl dX5_takePart_94 ?_
            simp_all [tpF, putF, up2, upd, -Int32.not_lt, -Int32.not_le]
          · refine a_aload_n (pc := 80) dX5_takePart_80 rfl rfl ?_
            refine a_getr (pc := 81) fl_X5_28 (by assumption) (by decide) (by rfl) dX5_takePart_81 ?_
            refine a_iconst (pc := 84) (v := 4) dX5_takePart_84 (by decide) ?_
            refine a_iload_n (pc := 85) dX5_takePart_85 rfl rfl ?_
            refine a_aload_n (pc := 86) dX5_takePart_86 rfl rfl ?_
            refine a_geti (pc := 87) fl_X5_120 (by assumption) (by decide) (by rfl) dX5_takePart_87 ?_
            refine a_iconst (pc := 90) (v := 0) dX5_takePart_90 (by decide) ?_
            refine a_callV4 (pc := 91) ck_X5_108 ⟨(Nat.le_of_ble_eq_true rfl), (Nat.le_of_ble_eq_true rfl)⟩ (by assumption) (by decide) (Nat.le_of_ble_eq_true rfl) dX5_takePart_91 rfl (c_X4_put (by assumption)) ?_
            rintro u rfl
            refine a_vret (pc := 94) rfl dX5_takePart_94 ?_
            simp_all [tpF, putF, up2, upd, -Int32.not_lt, -Int32.not_le]
        · refine a_iload (pc := 43) dX5_takePart_43 rfl ?_
          refine a_if_ne (pc := 45) (tgt := 49) dX5_takePart_45 (by decide) (fun c_45 => ?_) (fun c_45 => ?_)
          · refine a_aload_n (pc := 49) dX5_takePart_49 rfl rfl ?_
            refine a_iload_n (pc := 50) dX5_takePart_50 rfl rfl ?_
            refine a_puti (pc := 51) fp_X5_73 (by assumption) (by decide) (by rfl) dX5_takePart_51 ?_
            refine a_aload_n (pc := 54) dX5_takePart_54 rfl rfl ?_
            refine a_aload_n (pc := 55) dX5_takePart_55 rfl rfl ?_
            refine a_geti (pc := 56) fl_X5_122 (by assumption) (by decide) (by rfl) dX5_takePart_56 ?_
            refine a_iconst (pc := 59) (v := 1) dX5_takePart_59 (by decide) ?_
            refine a_iadd (pc := 60) dX5_takePart_60 ?_
            refine a_puti (pc := 61) fp_X5_76 (by assumption) (by decide) (by rfl) dX5_takePart_61 ?_
            refine a_aload_n (pc := 64) dX5_takePart_64 rfl rfl ?_
            refine a_iload_n (pc := 65) dX5_takePart_65 rfl rfl ?_
            refine a_puti (pc := 66) fp_X5_79 (by assumption) (by decide) (by rfl) dX5_takePart_66 ?_
            refine a_aload_n (pc := 69) dX5_takePart_69 rfl rfl ?_
            refine a_geti (pc := 70) fl_X5_76 (by assumption) (by decide) (by rfl) dX5_takePart_70 ?_
            refine a_aload_n (pc := 73) dX5_takePart_73 rfl rfl ?_
            refine a_geti (pc := 74) fl_X5_120 (by assumption) (by decide) (by rfl) dX5_takePart_74 ?_
            refine a_icmp_ne (pc := 77) (tgt := 94) dX5_takePart_77 (by decide) (fun c_77 => ?_) (fun c_77 => ?_)
            · refine a_vret (pc := 94) rfl dX5_takePart_94 ?_
              simp_all [tpF, putF, up2, upd, -Int32.not_lt, -Int32.not_le]
            · refine a_aload_n (pc := 80) dX5_takePart_80 rfl rfl ?_
              refine a_getr (pc := 81) fl_X5_28 (by assumption) (by decide) (by rfl) dX5_takePart_81 ?_
              refine a_iconst (pc := 84) (v := 4) dX5_takePart_84 (by decide) ?_
              refine a_iload_n (pc := 85) dX5_takePart_85 rfl rfl ?_
              refine a_aload_n (pc := 86) dX5_takePart_86 rfl rfl ?_
              refine a_geti (pc := 87) fl_X5_120 (by assumption) (by decide) (by rfl) dX5_takePart_87 ?_
              refine a_iconst (pc := 90) (v := 0) dX5_takePart_90 (by decide) ?_
              refine a_callV4 (pc := 91) ck_X5_108 ⟨(Nat.le_of_ble_eq_true rfl), (Nat.le_of_ble_eq_true rfl)⟩ (by assumption) (by decide) (Nat.le_of_ble_eq_true rfl) dX5_takePart_91 rfl (c_X4_put (by assumption)) ?_
              rintro u rfl
              refine a_vret (pc := 94) rfl dX5_takePart_94 ?_
              simp_all [tpF, putF, up2, upd, -Int32.not_lt, -Int32.not_le]
          · refine a_vret (pc := 48) rfl dX5_takePart_48 ?_
            simp_all [tpF, putF, up2, upd, -Int32.not_lt, -Int32.not_le]
      · refine a_iconst (pc := 29) (v := 1) dX5_takePart_29 (by decide) ?_
        refine a_goto (pc := 30) (tgt := 34) dX5_takePart_30 (by decide) ?_
        refine a_istore (pc := 34) (al' := [some (.ref _), some (.int _), some (.int _), some (.ref _), some (.int _)]) dX5_takePart_34 (by decide) rfl rfl ?_
        refine a_aload_n (pc := 36) dX5_takePart_36 rfl rfl ?_
        refine a_geti (pc := 37) fl_X5_122 (by assumption) (by decide) (by rfl) dX5_takePart_37 ?_
        refine a_if_eq (pc := 40) (tgt := 49) dX5_takePart_40 (by decide) (fun c_40 => ?_) (fun c_40 => ?_)
        · refine a_aload_n (pc := 49) dX5_takePart_49 rfl rfl ?_
          refine a_iload_n (pc := 50) dX5_takePart_50 rfl rfl ?_
          refine a_puti (pc := 51) fp_X5_73 (by assumption) (by decide) (by rfl) dX5_takePart_51 ?_
          refine a_aload_n (pc := 54) dX5_takePart_54 rfl rfl ?_
          refine a_aload_n (pc := 55) dX5_takePart_55 rfl rfl ?_
          refine a_geti (pc := 56) fl_X5_122 (by assumption) (by decide) (by rfl) dX5_takePart_56 ?_
          refine a_iconst (pc := 59) (v := 1) dX5_takePart_59 (by decide) ?_
          refine a_iadd (pc := 60) dX5_takePart_60 ?_
          refine a_puti (pc := 61) fp_X5_76 (by assumption) (by decide) (by rfl) dX5_takePart_61 ?_
          refine a_aload_n (pc := 64) dX5_takePart_64 rfl rfl ?_
          refine a_iload_n (pc := 65) dX5_takePart_65 rfl rfl ?_
          refine a_puti (pc := 66) fp_X5_79 (by assumption) (by decide) (by rfl) dX5_takePart_66 ?_
          refine a_aload_n (pc := 69) dX5_takePart_69 rfl rfl ?_
          refine a_geti (pc := 70) fl_X5_76 (by assumption) (by decide) (by rfl) dX5_takePart_70 ?_
          refine a_aload_n (pc := 73) dX5_takePart_73 rfl rfl ?_
          refine a_geti (pc := 74) fl_X5_120 (by assumption) (by decide) (by rfl) dX5_takePart_74 ?_
          refine a_icmp_ne (pc := 77) (tgt := 94) dX5_takePart_77 (by decide) (fun c_77 => ?_) (fun c_77 => ?_)
          · refine a_vret (pc := 94) rfl dX5_takePart_94 ?_
            simp_all [tpF, putF, up2, upd, -Int32.not_lt, -Int32.not_le]
          · refine a_aload_n (pc := 80) dX5_takePart_80 rfl rfl ?_
            refine a_getr (pc := 81) fl_X5_28 (by assumption) (by decide) (by rfl) dX5_takePart_81 ?_
            refine a_iconst (pc := 84) (v := 4) dX5_takePart_84 (by decide) ?_
            refine a_iload_n (pc := 85) dX5_takePart_85 rfl rfl ?_
            refine a_aload_n (pc := 86) dX5_takePart_86 rfl rfl ?_
            refine a_geti (pc := 87) fl_X5_120 (by assumption) (by decide) (by rfl) dX5_takePart_87 ?_
            refine a_iconst (pc := 90) (v := 0) dX5_takePart_90 (by decide) ?_
            refine a_callV4 (pc := 91) ck_X5_108 ⟨(Nat.le_of_ble_eq_true rfl), (Nat.le_of_ble_eq_true rfl)⟩ (by assumption) (by decide) (Nat.le_of_ble_eq_true rfl) dX5_takePart_91 rfl (c_X4_put (by assumption)) ?_
            rintro u rfl
            refine a_vret (pc := 94) rfl dX5_takePart_94 ?_
            simp_all [tpF, putF, up2, upd, -Int32.not_lt, -Int32.not_le]
        · refine a_iload (pc := 43) dX5_takePart_43 rfl ?_
          refine a_if_ne (pc := 45) (tgt := 49) dX5_takePart_45 (by decide) (fun c_45 => ?_) (fun c_45 => ?_)
          · refine a_aload_n (pc := 49) dX5_takePart_49 rfl rfl ?_
            refine a_iload_n (pc := 50) dX5_takePart_50 rfl rfl ?_
            refine a_puti (pc := 51) fp_X5_73 (by assumption) (by decide) (by rfl) dX5_takePart_51 ?_
            refine a_aload_n (pc := 54) dX5_takePart_54 rfl rfl ?_
            refine a_aload_n (pc := 55) dX5_takePart_55 rfl rfl ?_
            refine a_geti (pc := 56) fl_X5_122 (by assumption) (by decide) (by rfl) dX5_takePart_56 ?_
            refine a_iconst (pc := 59) (v := 1) dX5_takePart_59 (by decide) ?_
            refine a_iadd (pc := 60) dX5_takePart_60 ?_
            refine a_puti (pc := 61) fp_X5_76 (by assumption) (by decide) (by rfl) dX5_takePart_61 ?_
            refine a_aload_n (pc := 64) dX5_takePart_64 rfl rfl ?_
            refine a_iload_n (pc := 65) dX5_takePart_65 rfl rfl ?_
            refine a_puti (pc := 66) fp_X5_79 (by assumption) (by decide) (by rfl) dX5_takePart_66 ?_
            refine a_aload_n (pc := 69) dX5_takePart_69 rfl rfl ?_
            refine a_geti (pc := 70) fl_X5_76 (by assumption) (by decide) (by rfl) dX5_takePart_70 ?_
            refine a_aload_n (pc := 73) dX5_takePart_73 rfl rfl ?_
            refine a_geti (pc := 74) fl_X5_120 (by assumption) (by decide) (by rfl) dX5_takePart_74 ?_
            refine a_icmp_ne (pc := 77) (tgt := 94) dX5_takePart_77 (by decide) (fun c_77 => ?_) (fun c_77 => ?_)
            · refine a_vret (pc := 94) rfl dX5_takePart_94 ?_
              simp_all [tpF, putF, up2, upd, -Int32.not_lt, -Int32.not_le]
            · refine a_aload_n (pc := 80) dX5_takePart_80 rfl rfl ?_
              refine a_getr (pc := 81) fl_X5_28 (by assumption) (by decide) (by rfl) dX5_takePart_81 ?_
              refine a_iconst (pc := 84) (v := 4) dX5_takePart_84 (by decide) ?_
              refine a_iload_n (pc := 85) dX5_takePart_85 rfl rfl ?_
              refine a_aload_n (pc := 86) dX5_takePart_86 rfl rfl ?_
              refine a_geti (pc := 87) fl_X5_120 (by assumption) (by decide) (by rfl) dX5_takePart_87 ?_
              refine a_iconst (pc := 90) (v := 0) dX5_takePart_90 (by decide) ?_
              refine a_callV4 (pc := 91) ck_X5_108 ⟨(Nat.le_of_ble_eq_true rfl), (Nat.le_of_ble_eq_true rfl)⟩ (by assumption) (by decide) (Nat.le_of_ble_eq_true rfl) dX5_takePart_91 rfl (c_X4_put (by assumption)) ?_
              rintro u rfl
              refine a_vret (pc := 94) rfl dX5_takePart_94 ?_
              simp_all [tpF, putF, up2, upd, -Int32.not_lt, -Int32.not_le]
          · refine a_vret (pc := 48) rfl dX5_takePart_48 ?_
            simp_all [tpF, putF, up2, upd, -Int32.not_lt, -Int32.not_le]

def takF (μ : Mem) (o : Nat) (s fr : Int32) (g : Nat) : Int32 × Mem := if μ g 0 = 1 ∧ ¬ s ≤ μ o 4 then (0, putF μ (o + 6) 2 fr (μ g 2) 0) else if μ g 0 = 3 then (0, tpF μ o s fr g) else if μ g 0 = 2 ∧ μ o 9 = 2 then (0, up2 (up2 μ o 9 0) o 10 1) else if μ g 0 = 4 ∧ μ o 9 = 4 then (1, up2 μ o 9 0) else (0, μ)
set_option maxHeartbeats 4000000 in
set_option maxRecDepth 100000 in
theorem c_X5_take {μ : Mem} {o g : Nat} {s fr : Int32} (h : isSt o) (hg : isSig g) (hd : g < o ∨ o + 7 < g) : Con shC mX5_take [.ref o, .int s, .int fr, .ref g] μ (fun r u => r = (takF μ o s fr g).1 ∧ u = (takF μ o s fr g).2) := by
  obtain ⟨h0, hrow, hmem, hs6, hs7⟩ := id h
  have h1 : shC[o + 1]? = some (0, 3, [none, some (o + 2), some (o + 3)]) := hrow.1
  have h2 : shC[o + 2]? = some (100, 6, []) := hrow.2.1
  have h3 : shC[o + 3]? = some (100, 6, []) := hrow.2.2
  have h4 : shC[o + 4]? = some (1, 2, [none, some (o + 5)]) := hmem.1
  have h5 : shC[o + 5]? = some (100, 24, []) := hmem.2
  have h6 : shC[o + 6]? = _ := hs6
  have h7 : shC[o + 7]? = _ := hs7
  have hg0 : shC[g]? = _ := hg
  have n0 : g ≠ o := by omega
  have n6 : g ≠ o + 6 := by omega
  have n4 : g ≠ o + 4 := by omega
  have n5 : g ≠ o + 5 := by omega
  refine Con.ofAW (al0 := [some (.ref o), some (.int s), some (.int fr), some (.ref g)]) (by decide) rfl (Nat.le_of_ble_eq_true rfl) rfl ?_
  refine a_aload_n (pc := 0) dX5_take_0 rfl rfl ?_
  refine a_geti (pc := 1) fl_X5_112 (by assumption) (by decide) (by rfl) dX5_take_1 ?_
  refine a_iconst (pc := 4) (v := 1) dX5_take_4 (by decide) ?_
  refine a_icmp_ne (pc := 5) (tgt := 33) dX5_take_5 (by decide) (fun c_5 => ?_) (fun c_5 => ?_)
  · refine a_aload_n (pc := 33) dX5_take_33 rfl rfl ?_
    refine a_geti (pc := 34) fl_X5_112 (by assumption) (by decide) (by rfl) dX5_take_34 ?_
    refine a_iconst (pc := 37) (v := 3) dX5_take_37 (by decide) ?_
    refine a_icmp_ne (pc := 38) (tgt := 51) dX5_take_38 (by decide) (fun c_38 => ?_) (fun c_38 => ?_)
    · refine a_aload_n (pc := 51) dX5_take_51 rfl rfl ?_
      refine a_geti (pc := 52) fl_X5_112 (by assumption) (by decide) (by rfl) dX5_take_52 ?_
      refine a_iconst (pc := 55) (v := 2) dX5_take_55 (by decide) ?_
      refine a_icmp_ne (pc := 56) (tgt := 80) dX5_take_56 (by decide) (fun c_56 => ?_) (fun c_56 => ?_)
      · refine a_aload_n (pc := 80) dX5_take_80 rfl rfl ?_
        refine a_geti (pc := 81) fl_X5_112 (by assumption) (by decide) (by rfl) dX5_take_81 ?_
        refine a_iconst (pc := 84) (v := 4) dX5_take_84 (by decide) ?_
        refine a_icmp_ne (pc := 85) (tgt := 103) dX5_take_85 (by decide) (fun c_85 => ?_) (fun c_85 => ?_)
        · refine a_iconst (pc := 103) (v := 0) dX5_take_103 (by decide) ?_
          refine a_zret (pc := 104) rfl (by rfl) dX5_take_104 ?_
          simp_all [takF, -Int32.not_lt, -Int32.not_le]
        · refine a_aload_n (pc := 88) dX5_take_88 rfl rfl ?_
          refine a_geti (pc := 89) fl_X5_63 (by assumption) (by decide) (by rfl) dX5_take_89 ?_
          refine a_iconst (pc := 92) (v := 4) dX5_take_92 (by decide) ?_
          refine a_icmp_ne (pc := 93) (tgt := 103) dX5_take_93 (by decide) (fun c_93 => ?_) (fun c_93 => ?_)
          · refine a_iconst (pc := 103) (v := 0) dX5_take_103 (by decide) ?_
            refine a_zret (pc := 104) rfl (by rfl) dX5_take_104 ?_
            simp_all [takF, -Int32.not_lt, -Int32.not_le]
          · refine a_aload_n (pc := 96) dX5_take_96 rfl rfl ?_
            refine a_iconst (pc := 97) (v := 0) dX5_take_97 (by decide) ?_
            refine a_puti (pc := 98) fp_X5_63 (by assumption) (by decide) (by rfl) dX5_take_98 ?_
            refine a_iconst (pc := 101) (v := 1) dX5_take_101 (by decide) ?_
            refine a_zret (pc := 102) rfl (by rfl) dX5_take_102 ?_
            simp_all [takF, -Int32.not_lt, -Int32.not_le]
      · refine a_aload_n (pc := 59) dX5_take_59 rfl rfl ?_
        refine a_geti (pc := 60) fl_X5_63 (by assumption) (by decide) (by rfl) dX5_take_60 ?_
        refine a_iconst (pc := 63) (v := 2) dX5_take_63 (by decide) ?_
        refine a_icmp_ne (pc := 64) (tgt := 80) dX5_take_64 (by decide) (fun c_64 => ?_) (fun c_64 => ?_)
        · refine a_aload_n (pc := 80) dX5_take_80 rfl rfl ?_
          refine a_geti (pc := 81) fl_X5_112 (by assumption) (by decide) (by rfl) dX5_take_81 ?_
          refine a_iconst (pc := 84) (v := 4) dX5_take_84 (by decide) ?_
          refine a_icmp_ne (pc := 85) (tgt := 103) dX5_take_85 (by decide) (fun c_85 => ?_) (fun c_85 => ?_)
          · refine a_iconst (pc := 103) (v := 0) dX5_take_103 (by decide) ?_
            refine a_zret (pc := 104) rfl (by rfl) dX5_take_104 ?_
            simp_all [takF, -Int32.not_lt, -Int32.not_le]
          · refine a_aload_n (pc := 88) dX5_take_88 rfl rfl ?_
            refine a_geti (pc := 89) fl_X5_63 (by assumption) (by decide) (by rfl) dX5_take_89 ?_
            refine a_iconst (pc := 92) (v := 4) dX5_take_92 (by decide) ?_
            refine a_icmp_ne (pc := 93) (tgt := 103) dX5_take_93 (by decide) (fun c_93 => ?_) (fun c_93 => ?_)
            · refine a_iconst (pc := 103) (v := 0) dX5_take_103 (by decide) ?_
              refine a_zret (pc := 104) rfl (by rfl) dX5_take_104 ?_
              simp_all [takF, -Int32.not_lt, -Int32.not_le]
            · refine a_aload_n (pc := 96) dX5_take_96 rfl rfl ?_
              refine a_iconst (pc := 97) (v := 0) dX5_take_97 (by decide) ?_
              refine a_puti (pc := 98) fp_X5_63 (by assumption) (by decide) (by rfl) dX5_take_98 ?_
              refine a_iconst (pc := 101) (v := 1) dX5_take_101 (by decide) ?_
              refine a_zret (pc := 102) rfl (by rfl) dX5_take_102 ?_
              simp_all [takF, -Int32.not_lt, -Int32.not_le]
        · refine a_aload_n (pc := 67) dX5_take_67 rfl rfl ?_
          refine a_iconst (pc := 68) (v := 0) dX5_take_68 (by decide) ?_
          refine a_puti (pc := 69) fp_X5_63 (by assumption) (by decide) (by rfl) dX5_take_69 ?_
          refine a_aload_n (pc := 72) dX5_take_72 rfl rfl ?_
          refine a_iconst (pc := 73) (v := 1) dX5_take_73 (by decide) ?_
          refine a_putx (pc := 74) fp_X5_66 (by rfl) (by rfl) (by assumption) (by decide) (by rfl) dX5_take_74 ?_
          refine a_goto (pc := 77) (tgt := 103) dX5_take_77 (by decide) ?_
          refine a_iconst (pc := 103) (v := 0) dX5_take_103 (by decide) ?_
          refine a_zret (pc := 104) rfl (by rfl) dX5_take_104 ?_
          simp_all [takF, -Int32.not_lt, -Int32.not_le]
    · refine a_aload_n (pc := 41) dX5_take_41 rfl rfl ?_
      refine a_iload_n (pc := 42) dX5_take_42 rfl rfl ?_
      refine a_iload_n (pc := 43) dX5_take_43 rfl rfl ?_
      refine a_aload_n (pc := 44) dX5_take_44 rfl rfl ?_
      refine a_callV3 (pc := 45) ck_X5_131 ⟨(Nat.le_of_ble_eq_true rfl), (Nat.le_of_ble_eq_true rfl)⟩ (by assumption) (by decide) (Nat.le_of_ble_eq_true rfl) dX5_take_45 rfl (c_X5_takePart h hg hd) ?_
      rintro u rfl
      refine a_goto (pc := 48) (tgt := 103) dX5_take_48 (by decide) ?_
      refine a_iconst (pc := 103) (v := 0) dX5_take_103 (by decide) ?_
      refine a_zret (pc := 104) rfl (by rfl) dX5_take_104 ?_
      simp_all [takF, -Int32.not_lt, -Int32.not_le]
  · refine a_iload_n (pc := 8) dX5_take_8 rfl rfl ?_
    refine a_aload_n (pc := 9) dX5_take_9 rfl rfl ?_
    refine a_geti (pc := 10) fl_X5_48 (by assumption) (by decide) (by rfl) dX5_take_10 ?_
    refine a_icmp_le (pc := 13) (tgt := 33) dX5_take_13 (by decide) (fun c_13 => ?_) (fun c_13 => ?_)
    · refine a_aload_n (pc := 33) dX5_take_33 rfl rfl ?_
      refine a_geti (pc := 34) fl_X5_112 (by assumption) (by decide) (by rfl) dX5_take_34 ?_
      refine a_iconst (pc := 37) (v := 3) dX5_take_37 (by decide) ?_
      refine a_icmp_ne (pc := 38) (tgt := 51) dX5_take_38 (by decide) (fun c_38 => ?_) (fun c_38 => ?_)
      · refine a_aload_n (pc := 51) dX5_take_51 rfl rfl ?_
        refine a_geti (pc := 52) fl_X5_112 (by assumption) (by decide) (by rfl) dX5_take_52 ?_
        refine a_iconst (pc := 55) (v := 2) dX5_take_55 (by decide) ?_
        refine a_icmp_ne (pc := 56) (tgt := 80) dX5_take_56 (by decide) (fun c_56 => ?_) (fun c_56 => ?_)
        · refine a_aload_n (pc := 80) dX5_take_80 rfl rfl ?_
          refine a_geti (pc := 81) fl_X5_112 (by assumption) (by decide) (by rfl) dX5_take_81 ?_
          refine a_iconst (pc := 84) (v := 4) dX5_take_84 (by decide) ?_
          refine a_icmp_ne (pc := 85) (tgt := 103) dX5_take_85 (by decide) (fun c_85 => ?_) (fun c_85 => ?_)
          · refine a_iconst (pc := 103) (v := 0) dX5_take_103 (by decide) ?_
            refine a_zret (pc := 104) rfl (by rfl) dX5_take_104 ?_
            simp_all [takF, -Int32.not_lt, -Int32.not_le]
          · refine a_aload_n (pc := 88) dX5_take_88 rfl rfl ?_
            refine a_geti (pc := 89) fl_X5_63 (by assumption) (by decide) (by rfl) dX5_take_89 ?_
            refine a_iconst (pc := 92) (v := 4) dX5_take_92 (by decide) ?_
            refine a_icmp_ne (pc := 93) (tgt := 103) dX5_take_93 (by decide) (fun c_93 => ?_) (fun c_93 => ?_)
            · refine a_iconst (pc := 103) (v := 0) dX5_take_103 (by decide) ?_
              refine a_zret (pc := 104) rfl (by rfl) dX5_take_104 ?_
              simp_all [takF, -Int32.not_lt, -Int32.not_le]
            · refine a_aload_n (pc := 96) dX5_take_96 rfl rfl ?_
              refine a_iconst (pc := 97) (v := 0) dX5_take_97 (by decide) ?_
              refine a_puti (pc := 98) fp_X5_63 (by assumption) (by decide) (by rfl) dX5_take_98 ?_
              refine a_iconst (pc := 101) (v := 1) dX5_take_101 (by decide) ?_
              refine a_zret (pc := 102) rfl (by rfl) dX5_take_102 ?_
              simp_all [takF, -Int32.not_lt, -Int32.not_le]
        · refine a_aload_n (pc := 59) dX5_take_59 rfl rfl ?_
          refine a_geti (pc := 60) fl_X5_63 (by assumption) (by decide) (by rfl) dX5_take_60 ?_
          refine a_iconst (pc := 63) (v := 2) dX5_take_63 (by decide) ?_
          refine a_icmp_ne (pc := 64) (tgt := 80) dX5_take_64 (by decide) (fun c_64 => ?_) (fun c_64 => ?_)
          · refine a_aload_n (pc := 80) dX5_take_80 rfl rfl ?_
            refine a_geti (pc := 81) fl_X5_112 (by assumption) (by decide) (by rfl) dX5_take_81 ?_
            refine a_iconst (pc := 84) (v := 4) dX5_take_84 (by decide) ?_
            refine a_icmp_ne (pc := 85) (tgt := 103) dX5_take_85 (by decide) (fun c_85 => ?_) (fun c_85 => ?_)
            · refine a_iconst (pc := 103) (v := 0) dX5_take_103 (by decide) ?_
              refine a_zret (pc := 104) rfl (by rfl) dX5_take_104 ?_
              simp_all [takF, -Int32.not_lt, -Int32.not_le]
            · refine a_aload_n (pc := 88) dX5_take_88 rfl rfl ?_
              refine a_geti (pc := 89) fl_X5_63 (by assumption) (by decide) (by rfl) dX5_take_89 ?_
              refine a_iconst (pc := 92) (v := 4) dX5_take_92 (by decide) ?_
              refine a_icmp_ne (pc := 93) (tgt := 103) dX5_take_93 (by decide) (fun c_93 => ?_) (fun c_93 => ?_)
              · refine a_iconst (pc := 103) (v := 0) dX5_take_103 (by decide) ?_
                refine a_zret (pc := 104) rfl (by rfl) dX5_take_104 ?_
                simp_all [takF, -Int32.not_lt, -Int32.not_le]
              · refine a_aload_n (pc := 96) dX5_take_96 rfl rfl ?_
                refine a_iconst (pc := 97) (v := 0) dX5_take_97 (by decide) ?_
                refine a_puti (pc := 98) fp_X5_63 (by assumption) (by decide) (by rfl) dX5_take_98 ?_
                refine a_iconst (pc := 101) (v := 1) dX5_take_101 (by decide) ?_
                refine a_zret (pc := 102) rfl (by rfl) dX5_take_102 ?_
                simp_all [takF, -Int32.not_lt, -Int32.not_le]
          · refine a_aload_n (pc := 67) dX5_take_67 rfl rfl ?_
            refine a_iconst (pc := 68) (v := 0) dX5_take_68 (by decide) ?_
            refine a_puti (pc := 69) fp_X5_63 (by assumption) (by decide) (by rfl) dX5_take_69 ?_
            refine a_aload_n (pc := 72) dX5_take_72 rfl rfl ?_
            refine a_iconst (pc := 73) (v := 1) dX5_take_73 (by decide) ?_
            refine a_putx (pc := 74) fp_X5_66 (by rfl) (by rfl) (by assumption) (by decide) (by rfl) dX5_take_74 ?_
            refine a_goto (pc := 77) (tgt := 103) dX5_take_77 (by decide) ?_
            refine a_iconst (pc := 103) (v := 0) dX5_take_103 (by decide) ?_
            refine a_zret (pc := 104) rfl (by rfl) dX5_take_104 ?_
            simp_all [takF, -Int32.not_lt, -Int32.not_le]
      · refine a_aload_n (pc := 41) dX5_take_41 rfl rfl ?_
        refine a_iload_n (pc := 42) dX5_take_42 rfl rfl ?_
        refine a_iload_n (pc := 43) dX5_take_43 rfl rfl ?_
        refine a_aload_n (pc := 44) dX5_take_44 rfl rfl ?_
        refine a_callV3 (pc := 45) ck_X5_131 ⟨(Nat.le_of_ble_eq_true rfl), (Nat.le_of_ble_eq_true rfl)⟩ (by assumption) (by decide) (Nat.le_of_ble_eq_true rfl) dX5_take_45 rfl (c_X5_takePart h hg hd) ?_
        rintro u rfl
        refine a_goto (pc := 48) (tgt := 103) dX5_take_48 (by decide) ?_
        refine a_iconst (pc := 103) (v := 0) dX5_take_103 (by decide) ?_
        refine a_zret (pc := 104) rfl (by rfl) dX5_take_104 ?_
        simp_all [takF, -Int32.not_lt, -Int32.not_le]
    · refine a_aload_n (pc := 16) dX5_take_16 rfl rfl ?_
      refine a_getr (pc := 17) fl_X5_28 (by assumption) (by decide) (by rfl) dX5_take_17 ?_
      refine a_iconst (pc := 20) (v := 2) dX5_take_20 (by decide) ?_
      refine a_iload_n (pc := 21) dX5_take_21 rfl rfl ?_
      refine a_aload_n (pc := 22) dX5_take_22 rfl rfl ?_
      refine a_geti (pc := 23) fl_X5_120 (by assumption) (by decide) (by rfl) dX5_take_23 ?_
      refine a_iconst (pc := 26) (v := 0) dX5_take_26 (by decide) ?_
      refine a_callV4 (pc := 27) ck_X5_108 ⟨(Nat.le_of_ble_eq_true rfl), (Nat.le_of_ble_eq_true rfl)⟩ (by assumption) (by decide) (Nat.le_of_ble_eq_true rfl) dX5_take_27 rfl (c_X4_put (by assumption)) ?_
      rintro u rfl
      refine a_goto (pc := 30) (tgt := 103) dX5_take_30 (by decide) ?_
      refine a_iconst (pc := 103) (v := 0) dX5_take_103 (by decide) ?_
      refine a_zret (pc := 104) rfl (by rfl) dX5_take_104 ?_
      simp_all [takF, -Int32.not_lt, -Int32.not_le]

def clsF (μ : Mem) (o s : Nat) (least : Int32) : Mem := up2 (up2 (up2 (rmvF μ (o + 1) s) o 11 0) o 2 0) o 1 least
set_option maxHeartbeats 4000000 in
set_option maxRecDepth 100000 in
theorem c_X5_closeLetter {μ : Mem} {o s : Nat} {least : Int32} (h : isSt o) (hs : μ (o + 1) 0 = nI (s + 1)) (hl : s < 6) : Con shC mX5_closeLetter [.ref o, .int least] μ (fun _ u => u = clsF μ o s least) := by
  obtain ⟨h0, hrow, hmem, hs6, hs7⟩ := id h
  have h1 : shC[o + 1]? = some (0, 3, [none, some (o + 2), some (o + 3)]) := hrow.1
  have h2 : shC[o + 2]? = some (100, 6, []) := hrow.2.1
  have h3 : shC[o + 3]? = some (100, 6, []) := hrow.2.2
  have h4 : shC[o + 4]? = some (1, 2, [none, some (o + 5)]) := hmem.1
  have h5 : shC[o + 5]? = some (100, 24, []) := hmem.2
  have h6 : shC[o + 6]? = _ := hs6
  have h7 : shC[o + 7]? = _ := hs7
  refine Con.ofAW (al0 := [some (.ref o), some (.int least)]) (by decide) rfl (Nat.le_of_ble_eq_true rfl) rfl ?_
  refine a_aload_n (pc := 0) dX5_closeLetter_0 rfl rfl ?_
  refine a_getr (pc := 1) fl_X5_12 (by assumption) (by decide) (by rfl) dX5_closeLetter_1 ?_
  refine a_callV0 (pc := 4) ck_X5_135 ⟨(Nat.le_of_ble_eq_true rfl), (Nat.le_of_ble_eq_true rfl)⟩ (by assumption) (by decide) (Nat.le_of_ble_eq_true rfl) dX5_closeLetter_4 rfl (c_X0_removeFirst hrow hs hl) ?_
  rintro u rfl
  refine a_aload_n (pc := 7) dX5_closeLetter_7 rfl rfl ?_
  refine a_iconst (pc := 8) (v := 0) dX5_closeLetter_8 (by decide) ?_
  refine a_puti (pc := 9) fp_X5_70 (by assumption) (by decide) (by rfl) dX5_closeLetter_9 ?_
  refine a_aload_n (pc := 12) dX5_closeLetter_12 rfl rfl ?_
  refine a_iconst (pc := 13) (v := 0) dX5_closeLetter_13 (by decide) ?_
  refine a_puti (pc := 14) fp_X5_42 (by assumption) (by decide) (by rfl) dX5_closeLetter_14 ?_
  refine a_aload_n (pc := 17) dX5_closeLetter_17 rfl rfl ?_
  refine a_iload_n (pc := 18) dX5_closeLetter_18 rfl rfl ?_
  refine a_puti (pc := 19) fp_X5_39 (by assumption) (by decide) (by rfl) dX5_closeLetter_19 ?_
  refine a_vret (pc := 22) rfl dX5_closeLetter_22 ?_
  exact rfl

def flF (μ : Mem) (o s : Nat) (least most mt : Int32) : Mem := if μ o 2 + 1 < mt then up2 (up2 (up2 (up2 μ o 9 0) o 2 (μ o 2 + 1)) o 11 0) o 1 (if most < 2 * μ o 1 then most else 2 * μ o 1) else clsF (up2 (up2 (up2 μ o 9 0) o 2 (μ o 2 + 1)) o 7 (μ o 7 + 1)) o s least
set_option maxHeartbeats 4000000 in
set_option maxRecDepth 100000 in
theorem c_X5_failLetter {μ : Mem} {o s : Nat} {least most mt : Int32} (h : isSt o) (hs : μ (o + 1) 0 = nI (s + 1)) (hl : s < 6) : Con shC mX5_failLetter [.ref o, .int least, .int most, .int mt] μ (fun _ u => u = flF μ o s least most mt) := by
  obtain ⟨h0, hrow, hmem, hs6, hs7⟩ := id h
  have h1 : shC[o + 1]? = some (0, 3, [none, some (o + 2), some (o + 3)]) := hrow.1
  have h2 : shC[o + 2]? = some (100, 6, []) := hrow.2.1
  have h3 : shC[o + 3]? = some (100, 6, []) := hrow.2.2
  have h4 : shC[o + 4]? = some (1, 2, [none, some (o + 5)]) := hmem.1
  have h5 : shC[o + 5]? = some (100, 24, []) := hmem.2
  have h6 : shC[o + 6]? = _ := hs6
  have h7 : shC[o + 7]? = _ := hs7
  refine Con.ofAW (al0 := [some (.ref o), some (.int least), some (.int most), some (.int mt)]) (by decide) rfl (Nat.le_of_ble_eq_true rfl) rfl ?_
  refine a_aload_n (pc := 0) dX5_failLetter_0 rfl rfl ?_
  refine a_iconst (pc := 1) (v := 0) dX5_failLetter_1 (by decide) ?_
  refine a_puti (pc := 2) fp_X5_63 (by assumption) (by decide) (by rfl) dX5_failLetter_2 ?_
  refine a_aload_n (pc := 5) dX5_failLetter_5 rfl rfl ?_
  refine a_dup (pc := 6) dX5_failLetter_6 rfl ?_
  refine a_geti (pc := 7) fl_X5_42 (by assumption) (by decide) (by rfl) dX5_failLetter_7 ?_
  refine a_iconst (pc := 10) (v := 1) dX5_failLetter_10 (by decide) ?_
  refine a_iadd (pc := 11) dX5_failLetter_11 ?_
  refine a_puti (pc := 12) fp_X5_42 (by assumption) (by decide) (by rfl) dX5_failLetter_12 ?_
  refine a_aload_n (pc := 15) dX5_failLetter_15 rfl rfl ?_
  refine a_geti (pc := 16) fl_X5_42 (by assumption) (by decide) (by rfl) dX5_failLetter_16 ?_
  refine a_iload_n (pc := 19) dX5_failLetter_19 rfl rfl ?_
  refine a_icmp_lt (pc := 20) (tgt := 41) dX5_failLetter_20 (by decide) (fun c_20 => ?_) (fun c_20 => ?_)
  · refine a_aload_n (pc := 41) dX5_failLetter_41 rfl rfl ?_
    refine a_iconst (pc := 42) (v := 0) dX5_failLetter_42 (by decide) ?_
    refine a_puti (pc := 43) fp_X5_70 (by assumption) (by decide) (by rfl) dX5_failLetter_43 ?_
    refine a_aload_n (pc := 46) dX5_failLetter_46 rfl rfl ?_
    refine a_iconst (pc := 47) (v := 2) dX5_failLetter_47 (by decide) ?_
    refine a_aload_n (pc := 48) dX5_failLetter_48 rfl rfl ?_
    refine a_geti (pc := 49) fl_X5_39 (by assumption) (by decide) (by rfl) dX5_failLetter_49 ?_
    refine a_imul (pc := 52) dX5_failLetter_52 ?_
    refine a_iload_n (pc := 53) dX5_failLetter_53 rfl rfl ?_
    refine a_mmin (pc := 54) nl_X5_142 nw_min1 nw_math nw_min3 (Nat.le_of_ble_eq_true rfl) (Nat.le_of_ble_eq_true rfl) dX5_failLetter_54 ?_
    refine a_puti (pc := 57) fp_X5_39 (by assumption) (by decide) (by rfl) dX5_failLetter_57 ?_
    refine a_vret (pc := 60) rfl dX5_failLetter_60 ?_
    simp_all [flF, up2, upd, -Int32.not_lt, -Int32.not_le]
  · refine a_aload_n (pc := 23) dX5_failLetter_23 rfl rfl ?_
    refine a_dup (pc := 24) dX5_failLetter_24 rfl ?_
    refine a_geti (pc := 25) fl_X5_57 (by assumption) (by decide) (by rfl) dX5_failLetter_25 ?_
    refine a_iconst (pc := 28) (v := 1) dX5_failLetter_28 (by decide) ?_
    refine a_iadd (pc := 29) dX5_failLetter_29 ?_
    refine a_puti (pc := 30) fp_X5_57 (by assumption) (by decide) (by rfl) dX5_failLetter_30 ?_
    refine a_aload_n (pc := 33) dX5_failLetter_33 rfl rfl ?_
    refine a_iload_n (pc := 34) dX5_failLetter_34 rfl rfl ?_
    refine a_callV1 (pc := 35) ck_X5_138 ⟨(Nat.le_of_ble_eq_true rfl), (Nat.le_of_ble_eq_true rfl)⟩ (by assumption) (by decide) (Nat.le_of_ble_eq_true rfl) dX5_failLetter_35 rfl (c_X5_closeLetter (s := s) h (by simp [up2, hs]) hl) ?_
    rintro u rfl
    refine a_goto (pc := 38) (tgt := 60) dX5_failLetter_38 (by decide) ?_
    refine a_vret (pc := 60) rfl dX5_failLetter_60 ?_
    simp_all [flF, up2, upd, -Int32.not_lt, -Int32.not_le]
end
section
/-! Net: one station at a time -/
def bitF (x j : Int32) : Prop := x >>> (j &&& 31) &&& 1 = 1
set_option maxHeartbeats 4000000 in
set_option maxRecDepth 100000 in
theorem c_X2_hears {μ : Mem} {n i j : Nat} (hn : isNet n) (hi : i < 6) : Con shC mX2_hears [.ref n, .int (nI i), .int (nI j)] μ (fun r u => (r = 1 ∧ bitF (μ (stA n i) 0) (nI j) ∨ r = 0 ∧ ¬ bitF (μ (stA n i) 0) (nI j)) ∧ u = μ) := by
  obtain ⟨hn0, hn1, hn2, hnS⟩ := id hn
  have ws := hnS i hi
  have w0 : shC[(stA n i)]? = _ := ws.1
  have w1 : shC[(stA n i) + 1]? = some (0, 3, [none, some ((stA n i) + 2), some ((stA n i) + 3)]) := ws.2.1.1
  have w2 : shC[(stA n i) + 2]? = some (100, 6, []) := ws.2.1.2.1
  have w3 : shC[(stA n i) + 3]? = some (100, 6, []) := ws.2.1.2.2
  have w4 : shC[(stA n i) + 4]? = some (1, 2, [none, some ((stA n i) + 5)]) := ws.2.2.1.1
  have w5 : shC[(stA n i) + 5]? = some (100, 24, []) := ws.2.2.1.2
  have w6 : shC[(stA n i) + 6]? = some (4, 4, [none, none, none, none]) := ws.2.2.2.1
  have w7 : shC[(stA n i) + 7]? = some (4, 4, [none, none, none, none]) := ws.2.2.2.2
  refine Con.ofAW (al0 := [some (.ref n), some (.int (nI i)), some (.int (nI j))]) (by decide) rfl (Nat.le_of_ble_eq_true rfl) rfl ?_
  refine a_aload_n (pc := 0) dX2_hears_0 rfl rfl ?_
  refine a_getr (pc := 1) fl_X2_17 (by assumption) (by decide) (by rfl) dX2_hears_1 ?_
  refine a_iload_n (pc := 4) dX2_hears_4 rfl rfl ?_
  refine a_aald2 (pc := 5)  (by assumption) rfl (by omega) (by decide) (all_at hi) dX2_hears_5 ?_
  refine a_geti (pc := 6) fl_X2_60 (by assumption) (by decide) (by rfl) dX2_hears_6 ?_
  refine a_iload_n (pc := 9) dX2_hears_9 rfl rfl ?_
  refine a_ishr (pc := 10) dX2_hears_10 ?_
  refine a_iconst (pc := 11) (v := 1) dX2_hears_11 (by decide) ?_
  refine a_iand (pc := 12) dX2_hears_12 ?_
  refine a_iconst (pc := 13) (v := 1) dX2_hears_13 (by decide) ?_
  refine a_icmp_ne (pc := 14) (tgt := 21) dX2_hears_14 (by decide) (fun c_14 => ?_) (fun c_14 => ?_)
  · refine a_iconst (pc := 21) (v := 0) dX2_hears_21 (by decide) ?_
    refine a_zret (pc := 22) rfl (by rfl) dX2_hears_22 ?_
    simp_all [bitF]
  · refine a_iconst (pc := 17) (v := 1) dX2_hears_17 (by decide) ?_
    refine a_goto (pc := 18) (tgt := 22) dX2_hears_18 (by decide) ?_
    refine a_zret (pc := 22) rfl (by rfl) dX2_hears_22 ?_
    simp_all [bitF]

def jonF (μ : Mem) (n i j : Nat) : Mem := up2 (up2 μ (stA n i) 0 (μ (stA n i) 0 ||| (1 <<< (nI j &&& 31)))) (stA n j) 0 (μ (stA n j) 0 ||| (1 <<< (nI i &&& 31)))
def offF (μ : Mem) (n i j : Nat) : Mem := up2 (up2 μ (stA n i) 0 (μ (stA n i) 0 &&& ((1 <<< (nI j &&& 31)) ^^^ (-1)))) (stA n j) 0 (μ (stA n j) 0 &&& ((1 <<< (nI i &&& 31)) ^^^ (-1)))
theorem stA_ne {n i j : Nat} (h : i ≠ j) : stA n i ≠ stA n j := by unfold stA; omega
set_option maxHeartbeats 4000000 in
set_option maxRecDepth 100000 in
theorem c_X2_join1 {μ : Mem} {n i j : Nat} (hn : isNet n) (hi : i < 6) (hj : j < 6) (hij : i ≠ j) : Con shC mX2_join [.ref n, .int (nI i), .int (nI j), .int 1] μ (fun _ u => u = jonF μ n i j) := by
  obtain ⟨hn0, hn1, hn2, hnS⟩ := id hn
  have ws := hnS i hi
  have w0 : shC[(stA n i)]? = _ := ws.1
  have w1 : shC[(stA n i) + 1]? = some (0, 3, [none, some ((stA n i) + 2), some ((stA n i) + 3)]) := ws.2.1.1
  have w2 : shC[(stA n i) + 2]? = some (100, 6, []) := ws.2.1.2.1
  have w3 : shC[(stA n i) + 3]? = some (100, 6, []) := ws.2.1.2.2
  have w4 : shC[(stA n i) + 4]? = some (1, 2, [none, some ((stA n i) + 5)]) := ws.2.2.1.1
  have w5 : shC[(stA n i) + 5]? = some (100, 24, []) := ws.2.2.1.2
  have w6 : shC[(stA n i) + 6]? = some (4, 4, [none, none, none, none]) := ws.2.2.2.1
  have w7 : shC[(stA n i) + 7]? = some (4, 4, [none, none, none, none]) := ws.2.2.2.2
  have vs := hnS j hj
  have v0 : shC[(stA n j)]? = _ := vs.1
  have v1 : shC[(stA n j) + 1]? = some (0, 3, [none, some ((stA n j) + 2), some ((stA n j) + 3)]) := vs.2.1.1
  have v2 : shC[(stA n j) + 2]? = some (100, 6, []) := vs.2.1.2.1
  have v3 : shC[(stA n j) + 3]? = some (100, 6, []) := vs.2.1.2.2
  have v4 : shC[(stA n j) + 4]? = some (1, 2, [none, some ((stA n j) + 5)]) := vs.2.2.1.1
  have v5 : shC[(stA n j) + 5]? = some (100, 24, []) := vs.2.2.1.2
  have v6 : shC[(stA n j) + 6]? = some (4, 4, [none, none, none, none]) := vs.2.2.2.1
  have v7 : shC[(stA n j) + 7]? = some (4, 4, [none, none, none, none]) := vs.2.2.2.2
  refine Con.ofAW (al0 := [some (.ref n), some (.int (nI i)), some (.int (nI j)), some (.int 1)]) (by decide) rfl (Nat.le_of_ble_eq_true rfl) rfl ?_
  refine a_iload_n (pc := 0) dX2_join_0 rfl rfl ?_
  refine a_if_eq (pc := 1) (tgt := 41) dX2_join_1 (by decide) (fun c_1 => ?_) (fun c_1 => ?_)
  · exact absurd c_1 (by decide)
  · refine a_aload_n (pc := 4) dX2_join_4 rfl rfl ?_
    refine a_getr (pc := 5) fl_X2_17 (by assumption) (by decide) (by rfl) dX2_join_5 ?_
    refine a_iload_n (pc := 8) dX2_join_8 rfl rfl ?_
    refine a_aald2 (pc := 9)  (by assumption) rfl (by omega) (by decide) (all_at hi) dX2_join_9 ?_
    refine a_dup (pc := 10) dX2_join_10 rfl ?_
    refine a_geti (pc := 11) fl_X2_60 (by assumption) (by decide) (by rfl) dX2_join_11 ?_
    refine a_iconst (pc := 14) (v := 1) dX2_join_14 (by decide) ?_
    refine a_iload_n (pc := 15) dX2_join_15 rfl rfl ?_
    refine a_ishl (pc := 16) dX2_join_16 ?_
    refine a_ior (pc := 17) dX2_join_17 ?_
    refine a_puti (pc := 18) fp_X2_60 (by assumption) (by decide) (by rfl) dX2_join_18 ?_
    refine a_aload_n (pc := 21) dX2_join_21 rfl rfl ?_
    refine a_getr (pc := 22) fl_X2_17 (by assumption) (by decide) (by rfl) dX2_join_22 ?_
    refine a_iload_n (pc := 25) dX2_join_25 rfl rfl ?_
    refine a_aald2 (pc := 26)  (by assumption) rfl (by omega) (by decide) (all_at hj) dX2_join_26 ?_
    refine a_dup (pc := 27) dX2_join_27 rfl ?_
    refine a_geti (pc := 28) fl_X2_60 (by assumption) (by decide) (by rfl) dX2_join_28 ?_
    refine a_iconst (pc := 31) (v := 1) dX2_join_31 (by decide) ?_
    refine a_iload_n (pc := 32) dX2_join_32 rfl rfl ?_
    refine a_ishl (pc := 33) dX2_join_33 ?_
    refine a_ior (pc := 34) dX2_join_34 ?_
    refine a_puti (pc := 35) fp_X2_60 (by assumption) (by decide) (by rfl) dX2_join_35 ?_
    refine a_goto (pc := 38) (tgt := 79) dX2_join_38 (by decide) ?_
    refine a_vret (pc := 79) rfl dX2_join_79 ?_
    have e1 := stA_ne (n := n) hij
    simp [jonF, up2, upd, e1.symm]

set_option maxHeartbeats 4000000 in
set_option maxRecDepth 100000 in
theorem c_X2_join0 {μ : Mem} {n i j : Nat} (hn : isNet n) (hi : i < 6) (hj : j < 6) (hij : i ≠ j) : Con shC mX2_join [.ref n, .int (nI i), .int (nI j), .int 0] μ (fun _ u => u = offF μ n i j) := by
  obtain ⟨hn0, hn1, hn2, hnS⟩ := id hn
  have ws := hnS i hi
  have w0 : shC[(stA n i)]? = _ := ws.1
  have w1 : shC[(stA n i) + 1]? = some (0, 3, [none, some ((stA n i) + 2), some ((stA n i) + 3)]) := ws.2.1.1
  have w2 : shC[(stA n i) + 2]? = some (100, 6, []) := ws.2.1.2.1
  have w3 : shC[(stA n i) + 3]? = some (100, 6, []) := ws.2.1.2.2
  have w4 : shC[(stA n i) + 4]? = some (1, 2, [none, some ((stA n i) + 5)]) := ws.2.2.1.1
  have w5 : shC[(stA n i) + 5]? = some (100, 24, []) := ws.2.2.1.2
  have w6 : shC[(stA n i) + 6]? = some (4, 4, [none, none, none, none]) := ws.2.2.2.1
  have w7 : shC[(stA n i) + 7]? = some (4, 4, [none, none, none, none]) := ws.2.2.2.2
  have vs := hnS j hj
  have v0 : shC[(stA n j)]? = _ := vs.1
  have v1 : shC[(stA n j) + 1]? = some (0, 3, [none, some ((stA n j) + 2), some ((stA n j) + 3)]) := vs.2.1.1
  have v2 : shC[(stA n j) + 2]? = some (100, 6, []) := vs.2.1.2.1
  have v3 : shC[(stA n j) + 3]? = some (100, 6, []) := vs.2.1.2.2
  have v4 : shC[(stA n j) + 4]? = some (1, 2, [none, some ((stA n j) + 5)]) := vs.2.2.1.1
  have v5 : shC[(stA n j) + 5]? = some (100, 24, []) := vs.2.2.1.2
  have v6 : shC[(stA n j) + 6]? = some (4, 4, [none, none, none, none]) := vs.2.2.2.1
  have v7 : shC[(stA n j) + 7]? = some (4, 4, [none, none, none, none]) := vs.2.2.2.2
  refine Con.ofAW (al0 := [some (.ref n), some (.int (nI i)), some (.int (nI j)), some (.int 0)]) (by decide) rfl (Nat.le_of_ble_eq_true rfl) rfl ?_
  refine a_iload_n (pc := 0) dX2_join_0 rfl rfl ?_
  refine a_if_eq (pc := 1) (tgt := 41) dX2_join_1 (by decide) (fun c_1 => ?_) (fun c_1 => ?_)
  · refine a_aload_n (pc := 41) dX2_join_41 rfl rfl ?_
    refine a_getr (pc := 42) fl_X2_17 (by assumption) (by decide) (by rfl) dX2_join_42 ?_
    refine a_iload_n (pc := 45) dX2_join_45 rfl rfl ?_
    refine a_aald2 (pc := 46)  (by assumption) rfl (by omega) (by decide) (all_at hi) dX2_join_46 ?_
    refine a_dup (pc := 47) dX2_join_47 rfl ?_
    refine a_geti (pc := 48) fl_X2_60 (by assumption) (by decide) (by rfl) dX2_join_48 ?_
    refine a_iconst (pc := 51) (v := 1) dX2_join_51 (by decide) ?_
    refine a_iload_n (pc := 52) dX2_join_52 rfl rfl ?_
    refine a_ishl (pc := 53) dX2_join_53 ?_
    refine a_iconst (pc := 54) (v := -1) dX2_join_54 (by decide) ?_
    refine a_ixor (pc := 55) dX2_join_55 ?_
    refine a_iand (pc := 56) dX2_join_56 ?_
    refine a_puti (pc := 57) fp_X2_60 (by assumption) (by decide) (by rfl) dX2_join_57 ?_
    refine a_aload_n (pc := 60) dX2_join_60 rfl rfl ?_
    refine a_getr (pc := 61) fl_X2_17 (by assumption) (by decide) (by rfl) dX2_join_61 ?_
    refine a_iload_n (pc := 64) dX2_join_64 rfl rfl ?_
    refine a_aald2 (pc := 65)  (by assumption) rfl (by omega) (by decide) (all_at hj) dX2_join_65 ?_
    refine a_dup (pc := 66) dX2_join_66 rfl ?_
    refine a_geti (pc := 67) fl_X2_60 (by assumption) (by decide) (by rfl) dX2_join_67 ?_
    refine a_iconst (pc := 70) (v := 1) dX2_join_70 (by decide) ?_
    refine a_iload_n (pc := 71) dX2_join_71 rfl rfl ?_
    refine a_ishl (pc := 72) dX2_join_72 ?_
    refine a_iconst (pc := 73) (v := -1) dX2_join_73 (by decide) ?_
    refine a_ixor (pc := 74) dX2_join_74 ?_
    refine a_iand (pc := 75) dX2_join_75 ?_
    refine a_puti (pc := 76) fp_X2_60 (by assumption) (by decide) (by rfl) dX2_join_76 ?_
    refine a_vret (pc := 79) rfl dX2_join_79 ?_
    have e1 := stA_ne (n := n) hij
    simp [offF, up2, upd, e1.symm]
  · exact absurd c_1 (by decide)

def nearF (x y j : Int32) : Int32 := if x >>> (j &&& 31) &&& 1 = 1 then 0 else if x &&& y = 0 then 2 else 1
set_option maxHeartbeats 4000000 in
set_option maxRecDepth 100000 in
theorem c_X2_nearness {μ : Mem} {n i j : Nat} (hn : isNet n) (hi : i < 6) (hj : j < 6) : Con shC mX2_nearness [.ref n, .int (nI i), .int (nI j)] μ (fun r u => r = nearF (μ (stA n i) 0) (μ (stA n j) 0) (nI j) ∧ u = μ) := by
  obtain ⟨hn0, hn1, hn2, hnS⟩ := id hn
  have ws := hnS i hi
  have w0 : shC[(stA n i)]? = _ := ws.1
  have w1 : shC[(stA n i) + 1]? = some (0, 3, [none, some ((stA n i) + 2), some ((stA n i) + 3)]) := ws.2.1.1
  have w2 : shC[(stA n i) + 2]? = some (100, 6, []) := ws.2.1.2.1
  have w3 : shC[(stA n i) + 3]? = some (100, 6, []) := ws.2.1.2.2
  have w4 : shC[(stA n i) + 4]? = some (1, 2, [none, some ((stA n i) + 5)]) := ws.2.2.1.1
  have w5 : shC[(stA n i) + 5]? = some (100, 24, []) := ws.2.2.1.2
  have w6 : shC[(stA n i) + 6]? = some (4, 4, [none, none, none, none]) := ws.2.2.2.1
  have w7 : shC[(stA n i) + 7]? = some (4, 4, [none, none, none, none]) := ws.2.2.2.2
  have vs := hnS j hj
  have v0 : shC[(stA n j)]? = _ := vs.1
  have v1 : shC[(stA n j) + 1]? = some (0, 3, [none, some ((stA n j) + 2), some ((stA n j) + 3)]) := vs.2.1.1
  have v2 : shC[(stA n j) + 2]? = some (100, 6, []) := vs.2.1.2.1
  have v3 : shC[(stA n j) + 3]? = some (100, 6, []) := vs.2.1.2.2
  have v4 : shC[(stA n j) + 4]? = some (1, 2, [none, some ((stA n j) + 5)]) := vs.2.2.1.1
  have v5 : shC[(stA n j) + 5]? = some (100, 24, []) := vs.2.2.1.2
  have v6 : shC[(stA n j) + 6]? = some (4, 4, [none, none, none, none]) := vs.2.2.2.1
  have v7 : shC[(stA n j) + 7]? = some (4, 4, [none, none, none, none]) := vs.2.2.2.2
  refine Con.ofAW (al0 := [some (.ref n), some (.int (nI i)), some (.int (nI j))]) (by decide) rfl (Nat.le_of_ble_eq_true rfl) rfl ?_
  refine a_aload_n (pc := 0) dX2_nearness_0 rfl rfl ?_
  refine a_iload_n (pc := 1) dX2_nearness_1 rfl rfl ?_
  refine a_iload_n (pc := 2) dX2_nearness_2 rfl rfl ?_
  refine a_callI2 (pc := 3) ck_X2_63 ⟨(Nat.le_of_ble_eq_true rfl), (Nat.le_of_ble_eq_true rfl)⟩ (by assumption) (by decide) (Nat.le_of_ble_eq_true rfl) dX2_nearness_3 rfl (c_X2_hears hn hi) ?_
  rintro r u ⟨hr, rfl⟩
  refine a_if_eq (pc := 6) (tgt := 11) dX2_nearness_6 (by decide) (fun c_6 => ?_) (fun c_6 => ?_)
  · refine a_aload_n (pc := 11) dX2_nearness_11 rfl rfl ?_
    refine a_getr (pc := 12) fl_X2_17 (by assumption) (by decide) (by rfl) dX2_nearness_12 ?_
    refine a_iload_n (pc := 15) dX2_nearness_15 rfl rfl ?_
    refine a_aald2 (pc := 16)  (by assumption) rfl (by omega) (by decide) (all_at hi) dX2_nearness_16 ?_
    refine a_geti (pc := 17) fl_X2_60 (by assumption) (by decide) (by rfl) dX2_nearness_17 ?_
    refine a_aload_n (pc := 20) dX2_nearness_20 rfl rfl ?_
    refine a_getr (pc := 21) fl_X2_17 (by assumption) (by decide) (by rfl) dX2_nearness_21 ?_
    refine a_iload_n (pc := 24) dX2_nearness_24 rfl rfl ?_
    refine a_aald2 (pc := 25)  (by assumption) rfl (by omega) (by decide) (all_at hj) dX2_nearness_25 ?_
    refine a_geti (pc := 26) fl_X2_60 (by assumption) (by decide) (by rfl) dX2_nearness_26 ?_
    refine a_iand (pc := 29) dX2_nearness_29 ?_
    refine a_if_eq (pc := 30) (tgt := 37) dX2_nearness_30 (by decide) (fun c_30 => ?_) (fun c_30 => ?_)
    · refine a_iconst (pc := 37) (v := 2) dX2_nearness_37 (by decide) ?_
      refine a_iret (pc := 38) rfl dX2_nearness_38 ?_
      simp_all [nearF, bitF]
    · refine a_iconst (pc := 33) (v := 1) dX2_nearness_33 (by decide) ?_
      refine a_goto (pc := 34) (tgt := 38) dX2_nearness_34 (by decide) ?_
      refine a_iret (pc := 38) rfl dX2_nearness_38 ?_
      simp_all [nearF, bitF]
  · refine a_iconst (pc := 9) (v := 0) dX2_nearness_9 (by decide) ?_
    refine a_iret (pc := 10) rfl dX2_nearness_10 ?_
    simp_all [nearF, bitF]

set_option maxHeartbeats 4000000 in
set_option maxRecDepth 100000 in
theorem c_X2_isAsked {μ : Mem} {n : Nat} {l : Int32} (hn : isNet n) : Con shC mX2_isAsked [.ref n, .int l] μ (fun r u => r = (if l < μ n 3 then 0 else 1) ∧ u = μ) := by
  obtain ⟨hn0, hn1, hn2, hnS⟩ := id hn
  refine Con.ofAW (al0 := [some (.ref n), some (.int l)]) (by decide) rfl (Nat.le_of_ble_eq_true rfl) rfl ?_
  refine a_iload_n (pc := 0) dX2_isAsked_0 rfl rfl ?_
  refine a_aload_n (pc := 1) dX2_isAsked_1 rfl rfl ?_
  refine a_geti (pc := 2) fl_X2_32 (by assumption) (by decide) (by rfl) dX2_isAsked_2 ?_
  refine a_icmp_lt (pc := 5) (tgt := 12) dX2_isAsked_5 (by decide) (fun c_5 => ?_) (fun c_5 => ?_)
  · refine a_iconst (pc := 12) (v := 0) dX2_isAsked_12 (by decide) ?_
    refine a_zret (pc := 13) rfl (by rfl) dX2_isAsked_13 ?_
    simp_all [-Int32.not_lt, -Int32.not_le]
  · refine a_iconst (pc := 8) (v := 1) dX2_isAsked_8 (by decide) ?_
    refine a_goto (pc := 9) (tgt := 13) dX2_isAsked_9 (by decide) ?_
    refine a_zret (pc := 13) rfl (by rfl) dX2_isAsked_13 ?_
    simp_all [-Int32.not_lt, -Int32.not_le]

def remF (x y : Int32) : Int32 := x - x / y * y
def drnL (z i k : Int32) : Int64 := 7919 * z.toInt64 + 6151 * i.toInt64 + 3571 * k.toInt64 + 1
def drnF (z i k : Int32) : Int32 := (drnL z i k * drnL z i k - drnL z i k * drnL z i k / 65521 * 65521).toInt32
set_option maxHeartbeats 4000000 in
set_option maxRecDepth 100000 in
theorem c_X6_drawnNumber {sh : Shp} {μ : Mem} {z i k : Int32} : Con sh mX6_drawnNumber [.int z, .int i, .int k] μ (fun r u => r = drnF z i k ∧ u = μ) := by
  refine Con.ofAW (al0 := [some (.int z), some (.int i), some (.int k), none, none]) (by decide) rfl (Nat.le_of_ble_eq_true rfl) rfl ?_
  refine a_ldc2 (pc := 0) dX6_drawnNumber_0 kc_X6_229 ?_
  refine a_iload_n (pc := 3) dX6_drawnNumber_3 rfl rfl ?_
  refine a_i2l (pc := 4) dX6_drawnNumber_4 ?_
  refine a_lmul (pc := 5) dX6_drawnNumber_5 ?_
  refine a_ldc2 (pc := 6) dX6_drawnNumber_6 kc_X6_231 ?_
  refine a_iload_n (pc := 9) dX6_drawnNumber_9 rfl rfl ?_
  refine a_i2l (pc := 10) dX6_drawnNumber_10 ?_
  refine a_lmul (pc := 11) dX6_drawnNumber_11 ?_
  refine a_ladd (pc := 12) dX6_drawnNumber_12 ?_
  refine a_ldc2 (pc := 13) dX6_drawnNumber_13 kc_X6_233 ?_
  refine a_iload_n (pc := 16) dX6_drawnNumber_16 rfl rfl ?_
  refine a_i2l (pc := 17) dX6_drawnNumber_17 ?_
  refine a_lmul (pc := 18) dX6_drawnNumber_18 ?_
  refine a_ladd (pc := 19) dX6_drawnNumber_19 ?_
  refine a_lconst (pc := 20) (v := 1) dX6_drawnNumber_20 (by decide) ?_
  refine a_ladd (pc := 21) dX6_drawnNumber_21 ?_
  refine a_lstore_n (pc := 22) (al' := [some (.int _), some (.int _), some (.int _), some (.long _), none]) dX6_drawnNumber_22 rfl (by decide) rfl rfl ?_
  refine a_lload_n (pc := 23) dX6_drawnNumber_23 rfl rfl ?_
  refine a_lload_n (pc := 24) dX6_drawnNumber_24 rfl rfl ?_
  refine a_lmul (pc := 25) dX6_drawnNumber_25 ?_
  refine a_ldc2 (pc := 26) dX6_drawnNumber_26 kc_X6_235 ?_
  refine a_lrem (pc := 29) dX6_drawnNumber_29 (by decide) ?_
  refine a_l2i (pc := 30) dX6_drawnNumber_30 ?_
  refine a_iret (pc := 31) rfl dX6_drawnNumber_31 ?_
  exact ⟨rfl, rfl⟩

def dwF (μ : Mem) (n i : Nat) : Mem := if μ (stA n i + 1) 0 = 0 ∨ ¬ 1 ≤ μ (stA n i) 1 then up2 μ (stA n i) 3 0 else up2 (up2 μ (stA n i) 3 (remF (drnF (μ n 5) (nI i) (μ (stA n i) 8)) (μ (stA n i) 1))) (stA n i) 8 (μ (stA n i) 8 + 1)
theorem pos_ne0 {x : Int32} (h : 1 ≤ x) : ¬ x = 0 := by rintro rfl; exact absurd h (by decide)
set_option maxHeartbeats 4000000 in
set_option maxRecDepth 100000 in
theorem c_X2_drawWait {μ : Mem} {n i : Nat} (hn : isNet n) (hi : i < 6) : Con shC mX2_drawWait [.ref n, .int (nI i)] μ (fun _ u => u = dwF μ n i) := by
  obtain ⟨hn0, hn1, hn2, hnS⟩ := id hn
  have ws := hnS i hi
  have w0 : shC[(stA n i)]? = _ := ws.1
  have w1 : shC[(stA n i) + 1]? = some (0, 3, [none, some ((stA n i) + 2), some ((stA n i) + 3)]) := ws.2.1.1
  have w2 : shC[(stA n i) + 2]? = some (100, 6, []) := ws.2.1.2.1
  have w3 : shC[(stA n i) + 3]? = some (100, 6, []) := ws.2.1.2.2
  have w4 : shC[(stA n i) + 4]? = some (1, 2, [none, some ((stA n i) + 5)]) := ws.2.2.1.1
  have w5 : shC[(stA n i) + 5]? = some (100, 24, []) := ws.2.2.1.2
  have w6 : shC[(stA n i) + 6]? = some (4, 4, [none, none, none, none]) := ws.2.2.2.1
  have w7 : shC[(stA n i) + 7]? = some (4, 4, [none, none, none, none]) := ws.2.2.2.2
  refine Con.ofAW (al0 := [some (.ref n), some (.int (nI i)), none]) (by decide) rfl (Nat.le_of_ble_eq_true rfl) rfl ?_
  refine a_aload_n (pc := 0) dX2_drawWait_0 rfl rfl ?_
  refine a_getr (pc := 1) fl_X2_17 (by assumption) (by decide) (by rfl) dX2_drawWait_1 ?_
  refine a_iload_n (pc := 4) dX2_drawWait_4 rfl rfl ?_
  refine a_aald2 (pc := 5)  (by assumption) rfl (by omega) (by decide) (all_at hi) dX2_drawWait_5 ?_
  refine a_astore_n (pc := 6) (al' := [some (.ref _), some (.int _), some (.ref _)]) dX2_drawWait_6 rfl (by decide) rfl rfl ?_
  refine a_aload_n (pc := 7) dX2_drawWait_7 rfl rfl ?_
  refine a_getr (pc := 8) fl_X2_81 (by assumption) (by decide) (by rfl) dX2_drawWait_8 ?_
  refine a_geti (pc := 11) fl_X2_85 (by assumption) (by decide) (by rfl) dX2_drawWait_11 ?_
  refine a_if_eq (pc := 14) (tgt := 25) dX2_drawWait_14 (by decide) (fun c_14 => ?_) (fun c_14 => ?_)
  · refine a_aload_n (pc := 25) dX2_drawWait_25 rfl rfl ?_
    refine a_iconst (pc := 26) (v := 0) dX2_drawWait_26 (by decide) ?_
    refine a_puti (pc := 27) fp_X2_90 (by assumption) (by decide) (by rfl) dX2_drawWait_27 ?_
    refine a_vret (pc := 30) rfl dX2_drawWait_30 ?_
    simp_all [dwF, remF, up2, upd, -Int32.not_lt, -Int32.not_le]
  · refine a_aload_n (pc := 17) dX2_drawWait_17 rfl rfl ?_
    refine a_geti (pc := 18) fl_X2_74 (by assumption) (by decide) (by rfl) dX2_drawWait_18 ?_
    refine a_iconst (pc := 21) (v := 1) dX2_drawWait_21 (by decide) ?_
    refine a_icmp_ge (pc := 22) (tgt := 31) dX2_drawWait_22 (by decide) (fun c_22 => ?_) (fun c_22 => ?_)
    · refine a_aload_n (pc := 31) dX2_drawWait_31 rfl rfl ?_
      refine a_aload_n (pc := 32) dX2_drawWait_32 rfl rfl ?_
      refine a_geti (pc := 33) fl_X2_38 (by assumption) (by decide) (by rfl) dX2_drawWait_33 ?_
      refine a_iload_n (pc := 36) dX2_drawWait_36 rfl rfl ?_
      refine a_aload_n (pc := 37) dX2_drawWait_37 rfl rfl ?_
      refine a_geti (pc := 38) fl_X2_93 (by assumption) (by decide) (by rfl) dX2_drawWait_38 ?_
      refine a_callN3 (pc := 41) rfl ⟨(Nat.le_of_ble_eq_true rfl), (Nat.le_of_ble_eq_true rfl)⟩ (Nat.le_of_ble_eq_true rfl) dX2_drawWait_41 c_X6_drawnNumber ?_
      rintro r u ⟨rfl, rfl⟩
      refine a_aload_n (pc := 44) dX2_drawWait_44 rfl rfl ?_
      refine a_geti (pc := 45) fl_X2_74 (by assumption) (by decide) (by rfl) dX2_drawWait_45 ?_
      refine a_irem (pc := 48) dX2_drawWait_48 (pos_ne0 c_22) ?_
      refine a_puti (pc := 49) fp_X2_90 (by assumption) (by decide) (by rfl) dX2_drawWait_49 ?_
      refine a_aload_n (pc := 52) dX2_drawWait_52 rfl rfl ?_
      refine a_dup (pc := 53) dX2_drawWait_53 rfl ?_
      refine a_geti (pc := 54) fl_X2_93 (by assumption) (by decide) (by rfl) dX2_drawWait_54 ?_
      refine a_iconst (pc := 57) (v := 1) dX2_drawWait_57 (by decide) ?_
      refine a_iadd (pc := 58) dX2_drawWait_58 ?_
      refine a_puti (pc := 59) fp_X2_93 (by assumption) (by decide) (by rfl) dX2_drawWait_59 ?_
      refine a_vret (pc := 62) rfl dX2_drawWait_62 ?_
      simp_all [dwF, remF, up2, upd, -Int32.not_lt, -Int32.not_le]
    · refine a_aload_n (pc := 25) dX2_drawWait_25 rfl rfl ?_
      refine a_iconst (pc := 26) (v := 0) dX2_drawWait_26 (by decide) ?_
      refine a_puti (pc := 27) fp_X2_90 (by assumption) (by decide) (by rfl) dX2_drawWait_27 ?_
      refine a_vret (pc := 30) rfl dX2_drawWait_30 ?_
      simp_all [dwF, remF, up2, upd, -Int32.not_lt, -Int32.not_le]

def mbP (μ : Mem) (n x : Nat) : Prop := ¬ μ n 6 + 1 ≤ μ x 4 ∧ μ n 7 &&& μ x 0 = 0 ∧ μ x 9 = 0 ∧ ¬ μ (x + 1) 0 ≤ 0
set_option maxHeartbeats 4000000 in
set_option maxRecDepth 100000 in
theorem c_X2_mayBegin {μ : Mem} {n x : Nat} (hn : isNet n) (ws : isSt x) : Con shC mX2_mayBegin [.ref n, .ref x] μ (fun r u => (r = 1 ∧ mbP μ n x ∨ r = 0 ∧ ¬ mbP μ n x) ∧ u = μ) := by
  obtain ⟨hn0, hn1, hn2, hnS⟩ := id hn
  have w0 : shC[x]? = _ := ws.1
  have w1 : shC[x + 1]? = some (0, 3, [none, some (x + 2), some (x + 3)]) := ws.2.1.1
  have w2 : shC[x + 2]? = some (100, 6, []) := ws.2.1.2.1
  have w3 : shC[x + 3]? = some (100, 6, []) := ws.2.1.2.2
  have w4 : shC[x + 4]? = some (1, 2, [none, some (x + 5)]) := ws.2.2.1.1
  have w5 : shC[x + 5]? = some (100, 24, []) := ws.2.2.1.2
  have w6 : shC[x + 6]? = some (4, 4, [none, none, none, none]) := ws.2.2.2.1
  have w7 : shC[x + 7]? = some (4, 4, [none, none, none, none]) := ws.2.2.2.2
  refine Con.ofAW (al0 := [some (.ref n), some (.ref x), none]) (by decide) rfl (Nat.le_of_ble_eq_true rfl) rfl ?_
  refine a_aload_n (pc := 0) dX2_mayBegin_0 rfl rfl ?_
  refine a_geti (pc := 1) fl_X2_41 (by assumption) (by decide) (by rfl) dX2_mayBegin_1 ?_
  refine a_iconst (pc := 4) (v := 1) dX2_mayBegin_4 (by decide) ?_
  refine a_iadd (pc := 5) dX2_mayBegin_5 ?_
  refine a_aload_n (pc := 6) dX2_mayBegin_6 rfl rfl ?_
  refine a_geti (pc := 7) fl_X2_100 (by assumption) (by decide) (by rfl) dX2_mayBegin_7 ?_
  refine a_icmp_le (pc := 10) (tgt := 29) dX2_mayBegin_10 (by decide) (fun c_10 => ?_) (fun c_10 => ?_)
  · refine a_iconst (pc := 29) (v := 0) dX2_mayBegin_29 (by decide) ?_
    refine a_istore_n (pc := 30) (al' := [some (.ref _), some (.ref _), some (.int _)]) dX2_mayBegin_30 rfl (by decide) rfl rfl ?_
    refine a_iload_n (pc := 31) dX2_mayBegin_31 rfl rfl ?_
    refine a_if_eq (pc := 32) (tgt := 56) dX2_mayBegin_32 (by decide) (fun c_32 => ?_) (fun c_32 => ?_)
    · refine a_iconst (pc := 56) (v := 0) dX2_mayBegin_56 (by decide) ?_
      refine a_zret (pc := 57) rfl (by rfl) dX2_mayBegin_57 ?_
      simp_all [mbP, -Int32.not_lt, -Int32.not_le]
    · exact absurd c_32 (by decide)
  · refine a_aload_n (pc := 13) dX2_mayBegin_13 rfl rfl ?_
    refine a_geti (pc := 14) fl_X2_44 (by assumption) (by decide) (by rfl) dX2_mayBegin_14 ?_
    refine a_aload_n (pc := 17) dX2_mayBegin_17 rfl rfl ?_
    refine a_geti (pc := 18) fl_X2_60 (by assumption) (by decide) (by rfl) dX2_mayBegin_18 ?_
    refine a_iand (pc := 21) dX2_mayBegin_21 ?_
    refine a_if_ne (pc := 22) (tgt := 29) dX2_mayBegin_22 (by decide) (fun c_22 => ?_) (fun c_22 => ?_)
    · refine a_iconst (pc := 29) (v := 0) dX2_mayBegin_29 (by decide) ?_
      refine a_istore_n (pc := 30) (al' := [some (.ref _), some (.ref _), some (.int _)]) dX2_mayBegin_30 rfl (by decide) rfl rfl ?_
      refine a_iload_n (pc := 31) dX2_mayBegin_31 rfl rfl ?_
      refine a_if_eq (pc := 32) (tgt := 56) dX2_mayBegin_32 (by decide) (fun c_32 => ?_) (fun c_32 => ?_)
      · refine a_iconst (pc := 56) (v := 0) dX2_mayBegin_56 (by decide) ?_
        refine a_zret (pc := 57) rfl (by rfl) dX2_mayBegin_57 ?_
        simp_all [mbP, -Int32.not_lt, -Int32.not_le]
      · exact absurd c_32 (by decide)
    · refine a_iconst (pc := 25) (v := 1) dX2_mayBegin_25 (by decide) ?_
      refine a_goto (pc := 26) (tgt := 30) dX2_mayBegin_26 (by decide) ?_
      refine a_istore_n (pc := 30) (al' := [some (.ref _), some (.ref _), some (.int _)]) dX2_mayBegin_30 rfl (by decide) rfl rfl ?_
      refine a_iload_n (pc := 31) dX2_mayBegin_31 rfl rfl ?_
      refine a_if_eq (pc := 32) (tgt := 56) dX2_mayBegin_32 (by decide) (fun c_32 => ?_) (fun c_32 => ?_)
      · exact absurd c_32 (by decide)
      · refine a_aload_n (pc := 35) dX2_mayBegin_35 rfl rfl ?_
        refine a_geti (pc := 36) fl_X2_103 (by assumption) (by decide) (by rfl) dX2_mayBegin_36 ?_
        refine a_if_ne (pc := 39) (tgt := 56) dX2_mayBegin_39 (by decide) (fun c_39 => ?_) (fun c_39 => ?_)
        · refine a_iconst (pc := 56) (v := 0) dX2_mayBegin_56 (by decide) ?_
          refine a_zret (pc := 57) rfl (by rfl) dX2_mayBegin_57 ?_
          simp_all [mbP, -Int32.not_lt, -Int32.not_le]
        · refine a_aload_n (pc := 42) dX2_mayBegin_42 rfl rfl ?_
          refine a_getr (pc := 43) fl_X2_81 (by assumption) (by decide) (by rfl) dX2_mayBegin_43 ?_
          refine a_geti (pc := 46) fl_X2_85 (by assumption) (by decide) (by rfl) dX2_mayBegin_46 ?_
          refine a_if_le (pc := 49) (tgt := 56) dX2_mayBegin_49 (by decide) (fun c_49 => ?_) (fun c_49 => ?_)
          · refine a_iconst (pc := 56) (v := 0) dX2_mayBegin_56 (by decide) ?_
            refine a_zret (pc := 57) rfl (by rfl) dX2_mayBegin_57 ?_
            simp_all [mbP, -Int32.not_lt, -Int32.not_le]
          · refine a_iconst (pc := 52) (v := 1) dX2_mayBegin_52 (by decide) ?_
            refine a_goto (pc := 53) (tgt := 57) dX2_mayBegin_53 (by decide) ?_
            refine a_zret (pc := 57) rfl (by rfl) dX2_mayBegin_57 ?_
            simp_all [mbP, -Int32.not_lt, -Int32.not_le]

def ktsP (μ : Mem) (n x : Nat) (r : Int32) : Prop := (μ (x + 6) 0 ≠ 0 ∧ r = μ (x + 6) 0) ∨ (μ (x + 6) 0 = 0 ∧ μ x 10 ≠ 0 ∧ r = 3) ∨ (μ (x + 6) 0 = 0 ∧ μ x 10 = 0 ∧ (0 < μ x 3 ∨ ¬ mbP μ n x) ∧ r = 0) ∨ (μ (x + 6) 0 = 0 ∧ μ x 10 = 0 ∧ ¬ 0 < μ x 3 ∧ mbP μ n x ∧ r = (if μ (x + 3) 0 < μ n 3 then 3 else 1))
set_option maxHeartbeats 4000000 in
set_option maxRecDepth 100000 in
theorem c_X2_kindToSend {μ : Mem} {n x : Nat} (hn : isNet n) (ws : isSt x) : Con shC mX2_kindToSend [.ref n, .ref x] μ (fun r u => ktsP μ n x r ∧ u = μ) := by
  obtain ⟨hn0, hn1, hn2, hnS⟩ := id hn
  have w0 : shC[x]? = _ := ws.1
  have w1 : shC[x + 1]? = some (0, 3, [none, some (x + 2), some (x + 3)]) := ws.2.1.1
  have w2 : shC[x + 2]? = some (100, 6, []) := ws.2.1.2.1
  have w3 : shC[x + 3]? = some (100, 6, []) := ws.2.1.2.2
  have w4 : shC[x + 4]? = some (1, 2, [none, some (x + 5)]) := ws.2.2.1.1
  have w5 : shC[x + 5]? = some (100, 24, []) := ws.2.2.1.2
  have w6 : shC[x + 6]? = some (4, 4, [none, none, none, none]) := ws.2.2.2.1
  have w7 : shC[x + 7]? = some (4, 4, [none, none, none, none]) := ws.2.2.2.2
  refine Con.ofAW (al0 := [some (.ref n), some (.ref x)]) (by decide) rfl (Nat.le_of_ble_eq_true rfl) rfl ?_
  refine a_aload_n (pc := 0) dX2_kindToSend_0 rfl rfl ?_
  refine a_getr (pc := 1) fl_X2_106 (by assumption) (by decide) (by rfl) dX2_kindToSend_1 ?_
  refine a_geti (pc := 4) fl_X2_110 (by assumption) (by decide) (by rfl) dX2_kindToSend_4 ?_
  refine a_if_eq (pc := 7) (tgt := 18) dX2_kindToSend_7 (by decide) (fun c_7 => ?_) (fun c_7 => ?_)
  · refine a_aload_n (pc := 18) dX2_kindToSend_18 rfl rfl ?_
    refine a_geti (pc := 19) fl_X2_115 (by assumption) (by decide) (by rfl) dX2_kindToSend_19 ?_
    refine a_if_eq (pc := 22) (tgt := 27) dX2_kindToSend_22 (by decide) (fun c_22 => ?_) (fun c_22 => ?_)
    · refine a_aload_n (pc := 27) dX2_kindToSend_27 rfl rfl ?_
      refine a_geti (pc := 28) fl_X2_90 (by assumption) (by decide) (by rfl) dX2_kindToSend_28 ?_
      refine a_if_gt (pc := 31) (tgt := 42) dX2_kindToSend_31 (by decide) (fun c_31 => ?_) (fun c_31 => ?_)
      · refine a_iconst (pc := 42) (v := 0) dX2_kindToSend_42 (by decide) ?_
        refine a_iret (pc := 43) rfl dX2_kindToSend_43 ?_
        simp_all [ktsP, -Int32.not_lt, -Int32.not_le]
      · refine a_aload_n (pc := 34) dX2_kindToSend_34 rfl rfl ?_
        refine a_aload_n (pc := 35) dX2_kindToSend_35 rfl rfl ?_
        refine a_callI1 (pc := 36) ck_X2_119 ⟨(Nat.le_of_ble_eq_true rfl), (Nat.le_of_ble_eq_true rfl)⟩ (by assumption) (by decide) (Nat.le_of_ble_eq_true rfl) dX2_kindToSend_36 rfl (c_X2_mayBegin hn ws) ?_
        rintro r u ⟨hr, rfl⟩
        refine a_if_ne (pc := 39) (tgt := 44) dX2_kindToSend_39 (by decide) (fun c_39 => ?_) (fun c_39 => ?_)
        · refine a_aload_n (pc := 44) dX2_kindToSend_44 rfl rfl ?_
          refine a_aload_n (pc := 45) dX2_kindToSend_45 rfl rfl ?_
          refine a_getr (pc := 46) fl_X2_81 (by assumption) (by decide) (by rfl) dX2_kindToSend_46 ?_
          refine a_getr (pc := 49) fl_X2_123 (by assumption) (by decide) (by rfl) dX2_kindToSend_49 ?_
          refine a_iconst (pc := 52) (v := 0) dX2_kindToSend_52 (by decide) ?_
          refine a_iald (pc := 53) (j := 0) (by assumption) rfl (by omega) (by decide) dX2_kindToSend_53 ?_
          refine a_callI1 (pc := 54) ck_X2_126 ⟨(Nat.le_of_ble_eq_true rfl), (Nat.le_of_ble_eq_true rfl)⟩ (by assumption) (by decide) (Nat.le_of_ble_eq_true rfl) dX2_kindToSend_54 rfl (c_X2_isAsked hn) ?_
          rintro r u ⟨rfl, rfl⟩
          refine a_if_eq (pc := 57) (tgt := 64) dX2_kindToSend_57 (by decide) (fun c_57 => ?_) (fun c_57 => ?_)
          · refine a_iconst (pc := 64) (v := 3) dX2_kindToSend_64 (by decide) ?_
            refine a_iret (pc := 65) rfl dX2_kindToSend_65 ?_
            simp_all [ktsP, -Int32.not_lt, -Int32.not_le]
          · refine a_iconst (pc := 60) (v := 1) dX2_kindToSend_60 (by decide) ?_
            refine a_goto (pc := 61) (tgt := 65) dX2_kindToSend_61 (by decide) ?_
            refine a_iret (pc := 65) rfl dX2_kindToSend_65 ?_
            simp_all [ktsP, -Int32.not_lt, -Int32.not_le]
        · refine a_iconst (pc := 42) (v := 0) dX2_kindToSend_42 (by decide) ?_
          refine a_iret (pc := 43) rfl dX2_kindToSend_43 ?_
          simp_all [ktsP, -Int32.not_lt, -Int32.not_le]
    · refine a_iconst (pc := 25) (v := 3) dX2_kindToSend_25 (by decide) ?_
      refine a_iret (pc := 26) rfl dX2_kindToSend_26 ?_
      simp_all [ktsP, -Int32.not_lt, -Int32.not_le]
  · refine a_aload_n (pc := 10) dX2_kindToSend_10 rfl rfl ?_
    refine a_getr (pc := 11) fl_X2_106 (by assumption) (by decide) (by rfl) dX2_kindToSend_11 ?_
    refine a_geti (pc := 14) fl_X2_110 (by assumption) (by decide) (by rfl) dX2_kindToSend_14 ?_
    refine a_iret (pc := 17) rfl dX2_kindToSend_17 ?_
    simp_all [ktsP, -Int32.not_lt, -Int32.not_le]

def lowF (x : Int32) : Int32 := if ¬ x >>> (0 &&& 31) &&& 1 = 0 then 0 else if ¬ x >>> (1 &&& 31) &&& 1 = 0 then 1 else if ¬ x >>> (2 &&& 31) &&& 1 = 0 then 2 else if ¬ x >>> (3 &&& 31) &&& 1 = 0 then 3 else if ¬ x >>> (4 &&& 31) &&& 1 = 0 then 4 else 5
set_option maxHeartbeats 4000000 in
set_option maxRecDepth 100000 in
theorem c_X2_lowestOf {μ : Mem} {n : Nat} {x : Int32} : Con shC mX2_lowestOf [.ref n, .int x] μ (fun r u => r = lowF x ∧ u = μ) := by
  refine Con.ofAW (al0 := [some (.ref n), some (.int x), none]) (by decide) rfl (Nat.le_of_ble_eq_true rfl) rfl ?_
  refine a_iconst (pc := 0) (v := 0) dX2_lowestOf_0 (by decide) ?_
  refine a_istore_n (pc := 1) (al' := [some (.ref _), some (.int _), some (.int _)]) dX2_lowestOf_1 rfl (by decide) rfl rfl ?_
  refine a_iload_n (pc := 2) dX2_lowestOf_2 rfl rfl ?_
  refine a_iconst (pc := 3) (v := 5) dX2_lowestOf_3 (by decide) ?_
  refine a_icmp_ge (pc := 4) (tgt := 21) dX2_lowestOf_4 (by decide) (fun c_4 => ?_) (fun c_4 => ?_)
  · exact absurd c_4 (by decide)
  · refine a_iload_n (pc := 7) dX2_lowestOf_7 rfl rfl ?_
    refine a_iload_n (pc := 8) dX2_lowestOf_8 rfl rfl ?_
    refine a_ishr (pc := 9) dX2_lowestOf_9 ?_
    refine a_iconst (pc := 10) (v := 1) dX2_lowestOf_10 (by decide) ?_
    refine a_iand (pc := 11) dX2_lowestOf_11 ?_
    refine a_if_ne (pc := 12) (tgt := 21) dX2_lowestOf_12 (by decide) (fun c_12 => ?_) (fun c_12 => ?_)
    · refine a_iload_n (pc := 21) dX2_lowestOf_21 rfl rfl ?_
      refine a_iret (pc := 22) rfl dX2_lowestOf_22 ?_
      refine ⟨?_, rfl⟩
      simp_all [lowF]
    · refine a_iinc (pc := 15) (v := 1) (al' := [some (.ref _), some (.int _), some (.int _)]) dX2_lowestOf_15 rfl (by decide) (by decide) rfl rfl ?_
      refine a_goto (pc := 18) (tgt := 2) dX2_lowestOf_18 (by decide) ?_
      refine a_iload_n (pc := 2) dX2_lowestOf_2 rfl rfl ?_
      refine a_iconst (pc := 3) (v := 5) dX2_lowestOf_3 (by decide) ?_
      refine a_icmp_ge (pc := 4) (tgt := 21) dX2_lowestOf_4 (by decide) (fun c_4 => ?_) (fun c_4 => ?_)
      · exact absurd c_4 (by decide)
      · refine a_iload_n (pc := 7) dX2_lowestOf_7 rfl rfl ?_
        refine a_iload_n (pc := 8) dX2_lowestOf_8 rfl rfl ?_
        refine a_ishr (pc := 9) dX2_lowestOf_9 ?_
        refine a_iconst (pc := 10) (v := 1) dX2_lowestOf_10 (by decide) ?_
        refine a_iand (pc := 11) dX2_lowestOf_11 ?_
        refine a_if_ne (pc := 12) (tgt := 21) dX2_lowestOf_12 (by decide) (fun c_12 => ?_) (fun c_12 => ?_)
        · refine a_iload_n (pc := 21) dX2_lowestOf_21 rfl rfl ?_
          refine a_iret (pc := 22) rfl dX2_lowestOf_22 ?_
          refine ⟨?_, rfl⟩
          simp_all [lowF]
        · refine a_iinc (pc := 15) (v := 2) (al' := [some (.ref _), some (.int _), some (.int _)]) dX2_lowestOf_15 rfl (by decide) (by decide) rfl rfl ?_
          refine a_goto (pc := 18) (tgt := 2) dX2_lowestOf_18 (by decide) ?_
          refine a_iload_n (pc := 2) dX2_lowestOf_2 rfl rfl ?_
          refine a_iconst (pc := 3) (v := 5) dX2_lowestOf_3 (by decide) ?_
          refine a_icmp_ge (pc := 4) (tgt := 21) dX2_lowestOf_4 (by decide) (fun c_4 => ?_) (fun c_4 => ?_)
          · exact absurd c_4 (by decide)
          · refine a_iload_n (pc := 7) dX2_lowestOf_7 rfl rfl ?_
            refine a_iload_n (pc := 8) dX2_lowestOf_8 rfl rfl ?_
            refine a_ishr (pc := 9) dX2_lowestOf_9 ?_
            refine a_iconst (pc := 10) (v := 1) dX2_lowestOf_10 (by decide) ?_
            refine a_iand (pc := 11) dX2_lowestOf_11 ?_
            refine a_if_ne (pc := 12) (tgt := 21) dX2_lowestOf_12 (by decide) (fun c_12 => ?_) (fun c_12 => ?_)
            · refine a_iload_n (pc := 21) dX2_lowestOf_21 rfl rfl ?_
              refine a_iret (pc := 22) rfl dX2_lowestOf_22 ?_
              refine ⟨?_, rfl⟩
              simp_all [lowF]
            · refine a_iinc (pc := 15) (v := 3) (al' := [some (.ref _), some (.int _), some (.int _)]) dX2_lowestOf_15 rfl (by decide) (by decide) rfl rfl ?_
              refine a_goto (pc := 18) (tgt := 2) dX2_lowestOf_18 (by decide) ?_
              refine a_iload_n (pc := 2) dX2_lowestOf_2 rfl rfl ?_
              refine a_iconst (pc := 3) (v := 5) dX2_lowestOf_3 (by decide) ?_
              refine a_icmp_ge (pc := 4) (tgt := 21) dX2_lowestOf_4 (by decide) (fun c_4 => ?_) (fun c_4 => ?_)
              · exact absurd c_4 (by decide)
              · refine a_iload_n (pc := 7) dX2_lowestOf_7 rfl rfl ?_
                refine a_iload_n (pc := 8) dX2_lowestOf_8 rfl rfl ?_
                refine a_ishr (pc := 9) dX2_lowestOf_9 ?_
                refine a_iconst (pc := 10) (v := 1) dX2_lowestOf_10 (by decide) ?_
                refine a_iand (pc := 11) dX2_lowestOf_11 ?_
                refine a_if_ne (pc := 12) (tgt := 21) dX2_lowestOf_12 (by decide) (fun c_12 => ?_) (fun c_12 => ?_)
                · refine a_iload_n (pc := 21) dX2_lowestOf_21 rfl rfl ?_
                  refine a_iret (pc := 22) rfl dX2_lowestOf_22 ?_
                  refine ⟨?_, rfl⟩
                  simp_all [lowF]
                · refine a_iinc (pc := 15) (v := 4) (al' := [some (.ref _), some (.int _), some (.int _)]) dX2_lowestOf_15 rfl (by decide) (by decide) rfl rfl ?_
                  refine a_goto (pc := 18) (tgt := 2) dX2_lowestOf_18 (by decide) ?_
                  refine a_iload_n (pc := 2) dX2_lowestOf_2 rfl rfl ?_
                  refine a_iconst (pc := 3) (v := 5) dX2_lowestOf_3 (by decide) ?_
                  refine a_icmp_ge (pc := 4) (tgt := 21) dX2_lowestOf_4 (by decide) (fun c_4 => ?_) (fun c_4 => ?_)
                  · exact absurd c_4 (by decide)
                  · refine a_iload_n (pc := 7) dX2_lowestOf_7 rfl rfl ?_
                    refine a_iload_n (pc := 8) dX2_lowestOf_8 rfl rfl ?_
                    refine a_ishr (pc := 9) dX2_lowestOf_9 ?_
                    refine a_iconst (pc := 10) (v := 1) dX2_lowestOf_10 (by decide) ?_
                    refine a_iand (pc := 11) dX2_lowestOf_11 ?_
                    refine a_if_ne (pc := 12) (tgt := 21) dX2_lowestOf_12 (by decide) (fun c_12 => ?_) (fun c_12 => ?_)
                    · refine a_iload_n (pc := 21) dX2_lowestOf_21 rfl rfl ?_
                      refine a_iret (pc := 22) rfl dX2_lowestOf_22 ?_
                      refine ⟨?_, rfl⟩
                      simp_all [lowF]
                    · refine a_iinc (pc := 15) (v := 5) (al' := [some (.ref _), some (.int _), some (.int _)]) dX2_lowestOf_15 rfl (by decide) (by decide) rfl rfl ?_
                      refine a_goto (pc := 18) (tgt := 2) dX2_lowestOf_18 (by decide) ?_
                      refine a_iload_n (pc := 2) dX2_lowestOf_2 rfl rfl ?_
                      refine a_iconst (pc := 3) (v := 5) dX2_lowestOf_3 (by decide) ?_
                      refine a_icmp_ge (pc := 4) (tgt := 21) dX2_lowestOf_4 (by decide) (fun c_4 => ?_) (fun c_4 => ?_)
                      · refine a_iload_n (pc := 21) dX2_lowestOf_21 rfl rfl ?_
                        refine a_iret (pc := 22) rfl dX2_lowestOf_22 ?_
                        refine ⟨?_, rfl⟩
                        simp_all [lowF]
                      · exact absurd c_4 (by decide)

def popN (m : Nat) : Nat := m % 2 + m / 2 % 2 + m / 4 % 2 + m / 8 % 2 + m / 16 % 2 + m / 32 % 2
set_option maxHeartbeats 4000000 in
set_option maxRecDepth 100000 in
theorem c_J6_bitCount {sh : Shp} {μ : Mem} {m : Nat} (hm : m < 64) : Con sh mJ6_bitCount_0f7a4 [.int (nI m)] μ (fun r u => r = nI (popN m) ∧ u = μ) := by
  refine Con.ofAW (al0 := [some (.int (nI m))]) (by decide) rfl (Nat.le_of_ble_eq_true rfl) rfl ?_
  refine a_iload_n (pc := 0) dJ6_bitCount_0f7a4_0 rfl rfl ?_
  refine a_iload_n (pc := 1) dJ6_bitCount_0f7a4_1 rfl rfl ?_
  refine a_iconst (pc := 2) (v := 1) dJ6_bitCount_0f7a4_2 (by decide) ?_
  refine a_iushr (pc := 3) dJ6_bitCount_0f7a4_3 rfl ?_
  refine a_ldcw (pc := 4) dJ6_bitCount_0f7a4_4 kc_J6_265 ?_
  refine a_iand (pc := 7) dJ6_bitCount_0f7a4_7 ?_
  refine a_isub (pc := 8) dJ6_bitCount_0f7a4_8 ?_
  refine a_istore_n (pc := 9) (al' := [some (.int _)]) dJ6_bitCount_0f7a4_9 rfl (by decide) rfl rfl ?_
  refine a_iload_n (pc := 10) dJ6_bitCount_0f7a4_10 rfl rfl ?_
  refine a_ldcw (pc := 11) dJ6_bitCount_0f7a4_11 kc_J6_266 ?_
  refine a_iand (pc := 14) dJ6_bitCount_0f7a4_14 ?_
  refine a_iload_n (pc := 15) dJ6_bitCount_0f7a4_15 rfl rfl ?_
  refine a_iconst (pc := 16) (v := 2) dJ6_bitCount_0f7a4_16 (by decide) ?_
  refine a_iushr (pc := 17) dJ6_bitCount_0f7a4_17 rfl ?_
  refine a_ldcw (pc := 18) dJ6_bitCount_0f7a4_18 kc_J6_266 ?_
  refine a_iand (pc := 21) dJ6_bitCount_0f7a4_21 ?_
  refine a_iadd (pc := 22) dJ6_bitCount_0f7a4_22 ?_
  refine a_istore_n (pc := 23) (al' := [some (.int _)]) dJ6_bitCount_0f7a4_23 rfl (by decide) rfl rfl ?_
  refine a_iload_n (pc := 24) dJ6_bitCount_0f7a4_24 rfl rfl ?_
  refine a_iload_n (pc := 25) dJ6_bitCount_0f7a4_25 rfl rfl ?_
  refine a_iconst (pc := 26) (v := 4) dJ6_bitCount_0f7a4_26 (by decide) ?_
  refine a_iushr (pc := 27) dJ6_bitCount_0f7a4_27 rfl ?_
  refine a_iadd (pc := 28) dJ6_bitCount_0f7a4_28 ?_
  refine a_ldcw (pc := 29) dJ6_bitCount_0f7a4_29 kc_J6_267 ?_
  refine a_iand (pc := 32) dJ6_bitCount_0f7a4_32 ?_
  refine a_istore_n (pc := 33) (al' := [some (.int _)]) dJ6_bitCount_0f7a4_33 rfl (by decide) rfl rfl ?_
  refine a_iload_n (pc := 34) dJ6_bitCount_0f7a4_34 rfl rfl ?_
  refine a_iload_n (pc := 35) dJ6_bitCount_0f7a4_35 rfl rfl ?_
  refine a_bipush (pc := 36) (v := 8) dJ6_bitCount_0f7a4_36 (by decide) ?_
  refine a_iushr (pc := 38) dJ6_bitCount_0f7a4_38 rfl ?_
  refine a_iadd (pc := 39) dJ6_bitCount_0f7a4_39 ?_
  refine a_istore_n (pc := 40) (al' := [some (.int _)]) dJ6_bitCount_0f7a4_40 rfl (by decide) rfl rfl ?_
  refine a_iload_n (pc := 41) dJ6_bitCount_0f7a4_41 rfl rfl ?_
  refine a_iload_n (pc := 42) dJ6_bitCount_0f7a4_42 rfl rfl ?_
  refine a_bipush (pc := 43) (v := 16) dJ6_bitCount_0f7a4_43 (by decide) ?_
  refine a_iushr (pc := 45) dJ6_bitCount_0f7a4_45 rfl ?_
  refine a_iadd (pc := 46) dJ6_bitCount_0f7a4_46 ?_
  refine a_istore_n (pc := 47) (al' := [some (.int _)]) dJ6_bitCount_0f7a4_47 rfl (by decide) rfl rfl ?_
  refine a_iload_n (pc := 48) dJ6_bitCount_0f7a4_48 rfl rfl ?_
  refine a_bipush (pc := 49) (v := 63) dJ6_bitCount_0f7a4_49 (by decide) ?_
  refine a_iand (pc := 51) dJ6_bitCount_0f7a4_51 ?_
  refine a_iret (pc := 52) rfl dJ6_bitCount_0f7a4_52 ?_
  refine ⟨?_, rfl⟩
  revert hm m
  decide +kernel
end
section
/-! Net: getFrom, tallySent, listen -/
theorem putF_ne {μ : Mem} {o x : Nat} {a b c d : Int32} (h : x ≠ o) : putF μ o a b c d x = μ x := by simp [putF, up2, h]
theorem tpF_ne {μ : Mem} {o g x : Nat} {s fr : Int32} (h : x ≠ o) (h6 : x ≠ o + 6) : tpF μ o s fr g x = μ x := by
  unfold tpF; split
  · split
    · rw [putF_ne h6]; simp [up2, h]
    · simp [up2, h]
  · rfl
theorem tpF_k {μ : Mem} {o g k : Nat} {s fr : Int32} (h : k < 12) : tpF μ o s fr g o k = μ o k := by
  have e1 : k ≠ 12 := by omega
  have e2 : k ≠ 13 := by omega
  have e3 : k ≠ 14 := by omega
  unfold tpF; split
  · split
    · rw [putF_ne (by omega)]; simp [up2, upd, e1, e2, e3]
    · simp [up2, upd, e1, e2, e3]
  · rfl
theorem takF_ne {μ : Mem} {o g x : Nat} {s fr : Int32} (h : x ≠ o) (h6 : x ≠ o + 6) : (takF μ o s fr g).2 x = μ x := by
  unfold takF; repeat' split
  · exact putF_ne h6
  · exact tpF_ne h h6
  · simp [up2, h]
  · simp [up2, h]
  · rfl
theorem takF_k {μ : Mem} {o g k : Nat} {s fr : Int32} (h : k < 9) : (takF μ o s fr g).2 o k = μ o k := by
  have e1 : k ≠ 9 := by omega
  have e2 : k ≠ 10 := by omega
  unfold takF; repeat' split
  · exact congrFun (putF_ne (by omega)) k
  · exact tpF_k (by omega)
  · simp [up2, upd, e1, e2]
  · simp [up2, upd, e1]
  · rfl
theorem takF_9 {μ : Mem} {o g : Nat} {s fr : Int32} (h : (takF μ o s fr g).2 o 9 ≠ 0) : (takF μ o s fr g).2 o 9 = μ o 9 := by
  revert h; unfold takF; repeat' split
  · intro _; exact congrFun (putF_ne (by omega)) 9
  · intro _; exact tpF_k (by omega)
  · intro h; exact absurd (by simp [up2, upd]) h
  · intro h; exact absurd (by simp [up2, upd]) h
  · intro _; rfl
theorem takF_1 {μ : Mem} {o g : Nat} {s fr : Int32} (h : ¬ (takF μ o s fr g).1 = 0) : μ o 9 = 4 := by
  revert h; unfold takF; repeat' split
  · intro h; exact absurd rfl h
  · intro h; exact absurd rfl h
  · intro h; exact absurd rfl h
  · intro _; rename_i h _; exact h.2
  · intro h; exact absurd rfl h
theorem takF_bool {μ : Mem} {o g : Nat} {s fr : Int32} : (takF μ o s fr g).1 = 0 ∨ (takF μ o s fr g).1 = 1 := by
  unfold takF; repeat' split
  all_goals simp
theorem ovhF_ne {μ : Mem} {o h g x : Nat} {s fr : Int32} (e : x ≠ o) (e4 : x ≠ o + 4) (e5 : x ≠ o + 5) : ovhF μ o h s fr g x = μ x := by
  unfold ovhF; rw [up2_ne e]; exact mAdd_ne e4 (by omega)
theorem ovhF_k {μ : Mem} {o h g k : Nat} {s fr : Int32} (e : k ≠ 4) : ovhF μ o h s fr g o k = μ o k := by
  unfold ovhF; rw [up2_k e, mAdd_ne (by omega) (by omega)]
def gfF (μ : Mem) (n i j h : Nat) : Int32 × Mem := if μ (stA n j + 7) 1 = nI i then takF μ (stA n i) (μ n 6) (nI j) (stA n j + 7) else (0, ovhF μ (stA n i) h (μ n 6) (nI j) (stA n j + 7))
set_option maxHeartbeats 4000000 in
set_option maxRecDepth 100000 in
theorem c_X2_getFrom {μ : Mem} {n i j h : Nat} (hn : isNet n) (hi : i < 6) (hj : j < 6) (hij : i ≠ j) (hs : μ (stA n i + 4) 0 = nI h) (hl : h ≤ 6) : Con shC mX2_getFrom [.ref n, .int (nI i), .int (nI j)] μ (fun r u => r = (gfF μ n i j h).1 ∧ u = (gfF μ n i j h).2) := by
  obtain ⟨hn0, hn1, hn2, hnS⟩ := id hn
  have ws := hnS i hi
  have w0 : shC[(stA n i)]? = _ := ws.1
  have w1 : shC[(stA n i) + 1]? = some (0, 3, [none, some ((stA n i) + 2), some ((stA n i) + 3)]) := ws.2.1.1
  have w2 : shC[(stA n i) + 2]? = some (100, 6, []) := ws.2.1.2.1
  have w3 : shC[(stA n i) + 3]? = some (100, 6, []) := ws.2.1.2.2
  have w4 : shC[(stA n i) + 4]? = some (1, 2, [none, some ((stA n i) + 5)]) := ws.2.2.1.1
  have w5 : shC[(stA n i) + 5]? = some (100, 24, []) := ws.2.2.1.2
  have w6 : shC[(stA n i) + 6]? = some (4, 4, [none, none, none, none]) := ws.2.2.2.1
  have w7 : shC[(stA n i) + 7]? = some (4, 4, [none, none, none, none]) := ws.2.2.2.2
  have vs := hnS j hj
  have v0 : shC[(stA n j)]? = _ := vs.1
  have v1 : shC[(stA n j) + 1]? = some (0, 3, [none, some ((stA n j) + 2), some ((stA n j) + 3)]) := vs.2.1.1
  have v2 : shC[(stA n j) + 2]? = some (100, 6, []) := vs.2.1.2.1
  have v3 : shC[(stA n j) + 3]? = some (100, 6, []) := vs.2.1.2.2
  have v4 : shC[(stA n j) + 4]? = some (1, 2, [none, some ((stA n j) + 5)]) := vs.2.2.1.1
  have v5 : shC[(stA n j) + 5]? = some (100, 24, []) := vs.2.2.1.2
  have v6 : shC[(stA n j) + 6]? = some (4, 4, [none, none, none, none]) := vs.2.2.2.1
  have v7 : shC[(stA n j) + 7]? = some (4, 4, [none, none, none, none]) := vs.2.2.2.2
  have hd : stA n j + 7 < stA n i ∨ stA n i + 7 < stA n j + 7 := by unfold stA; omega
  refine Con.ofAW (al0 := [some (.ref n), some (.int (nI i)), some (.int (nI j)), none]) (by decide) rfl (Nat.le_of_ble_eq_true rfl) rfl ?_
  refine a_aload_n (pc := 0) dX2_getFrom_0 rfl rfl ?_
  refine a_getr (pc := 1) fl_X2_17 (by assumption) (by decide) (by rfl) dX2_getFrom_1 ?_
  refine a_iload_n (pc := 4) dX2_getFrom_4 rfl rfl ?_
  refine a_aald2 (pc := 5)  (by assumption) rfl (by omega) (by decide) (all_at hj) dX2_getFrom_5 ?_
  refine a_getr (pc := 6) fl_X2_144 (by assumption) (by decide) (by rfl) dX2_getFrom_6 ?_
  refine a_astore_n (pc := 9) (al' := [some (.ref _), some (.int _), some (.int _), some (.ref _)]) dX2_getFrom_9 rfl (by decide) rfl rfl ?_
  refine a_aload_n (pc := 10) dX2_getFrom_10 rfl rfl ?_
  refine a_geti (pc := 11) fl_X2_174 (by assumption) (by decide) (by rfl) dX2_getFrom_11 ?_
  refine a_iload_n (pc := 14) dX2_getFrom_14 rfl rfl ?_
  refine a_icmp_ne (pc := 15) (tgt := 34) dX2_getFrom_15 (by decide) (fun c_15 => ?_) (fun c_15 => ?_)
  · refine a_aload_n (pc := 34) dX2_getFrom_34 rfl rfl ?_
    refine a_getr (pc := 35) fl_X2_17 (by assumption) (by decide) (by rfl) dX2_getFrom_35 ?_
    refine a_iload_n (pc := 38) dX2_getFrom_38 rfl rfl ?_
    refine a_aald2 (pc := 39)  (by assumption) rfl (by omega) (by decide) (all_at hi) dX2_getFrom_39 ?_
    refine a_aload_n (pc := 40) dX2_getFrom_40 rfl rfl ?_
    refine a_geti (pc := 41) fl_X2_41 (by assumption) (by decide) (by rfl) dX2_getFrom_41 ?_
    refine a_iload_n (pc := 44) dX2_getFrom_44 rfl rfl ?_
    refine a_aload_n (pc := 45) dX2_getFrom_45 rfl rfl ?_
    refine a_callV3 (pc := 46) ck_X2_181 ⟨(Nat.le_of_ble_eq_true rfl), (Nat.le_of_ble_eq_true rfl)⟩ (by assumption) (by decide) (Nat.le_of_ble_eq_true rfl) dX2_getFrom_46 rfl (c_X5_overhear ws vs.2.2.2.2 hd hs hl) ?_
    rintro u rfl
    refine a_iconst (pc := 49) (v := 0) dX2_getFrom_49 (by decide) ?_
    refine a_zret (pc := 50) rfl (by rfl) dX2_getFrom_50 ?_
    simp_all [gfF]
  · refine a_aload_n (pc := 18) dX2_getFrom_18 rfl rfl ?_
    refine a_getr (pc := 19) fl_X2_17 (by assumption) (by decide) (by rfl) dX2_getFrom_19 ?_
    refine a_iload_n (pc := 22) dX2_getFrom_22 rfl rfl ?_
    refine a_aald2 (pc := 23)  (by assumption) rfl (by omega) (by decide) (all_at hi) dX2_getFrom_23 ?_
    refine a_aload_n (pc := 24) dX2_getFrom_24 rfl rfl ?_
    refine a_geti (pc := 25) fl_X2_41 (by assumption) (by decide) (by rfl) dX2_getFrom_25 ?_
    refine a_iload_n (pc := 28) dX2_getFrom_28 rfl rfl ?_
    refine a_aload_n (pc := 29) dX2_getFrom_29 rfl rfl ?_
    refine a_callI3 (pc := 30) ck_X2_177 ⟨(Nat.le_of_ble_eq_true rfl), (Nat.le_of_ble_eq_true rfl)⟩ (by assumption) (by decide) (Nat.le_of_ble_eq_true rfl) dX2_getFrom_30 rfl (c_X5_take ws vs.2.2.2.2 hd) ?_
    rintro r u ⟨rfl, rfl⟩
    refine a_zret (pc := 33) rfl (by rcases takF_bool (μ := μ) (o := stA n i) (g := stA n j + 7) (s := μ n 6) (fr := nI j) with e | e <;> rw [e] <;> rfl) dX2_getFrom_33 ?_
    simp_all [gfF]

def tsF (μ : Mem) (n x t : Nat) : Mem := up2 (up2 μ (n + 1) (t + 1) (μ (n + 1) (t + 1) + 1)) x 6 (μ x 6 + 1)
set_option maxHeartbeats 4000000 in
set_option maxRecDepth 100000 in
theorem c_X2_tallySent {μ : Mem} {n x t : Nat} (hn : isNet n) (ws : isSt x) (hx : x ≠ n + 1) (ht : μ x 2 = nI t) (hl : t < 9) : Con shC mX2_tallySent [.ref n, .ref x] μ (fun _ u => u = tsF μ n x t) := by
  obtain ⟨hn0, hn1, hn2, hnS⟩ := id hn
  have w0 : shC[x]? = _ := ws.1
  have w1 : shC[x + 1]? = some (0, 3, [none, some (x + 2), some (x + 3)]) := ws.2.1.1
  have w2 : shC[x + 2]? = some (100, 6, []) := ws.2.1.2.1
  have w3 : shC[x + 3]? = some (100, 6, []) := ws.2.1.2.2
  have w4 : shC[x + 4]? = some (1, 2, [none, some (x + 5)]) := ws.2.2.1.1
  have w5 : shC[x + 5]? = some (100, 24, []) := ws.2.2.1.2
  have w6 : shC[x + 6]? = some (4, 4, [none, none, none, none]) := ws.2.2.2.1
  have w7 : shC[x + 7]? = some (4, 4, [none, none, none, none]) := ws.2.2.2.2
  refine Con.ofAW (al0 := [some (.ref n), some (.ref x), none]) (by decide) rfl (Nat.le_of_ble_eq_true rfl) rfl ?_
  refine a_aload_n (pc := 0) dX2_tallySent_0 rfl rfl ?_
  refine a_geti (pc := 1) fl_X2_185 (by assumption) (by decide) (by rfl) dX2_tallySent_1 ?_
  refine a_top (y := nI t) ht ?_
  refine a_iconst (pc := 4) (v := 1) dX2_tallySent_4 (by decide) ?_
  refine a_iaddN (pc := 5) (a := _) (b := 1) rfl rfl dX2_tallySent_5 ?_
  refine a_istore_n (pc := 6) (al' := [some (.ref _), some (.ref _), some (.int _)]) dX2_tallySent_6 rfl (by decide) rfl rfl ?_
  refine a_iload_n (pc := 7) dX2_tallySent_7 rfl rfl ?_
  refine a_bipush (pc := 8) (v := 9) dX2_tallySent_8 (by decide) ?_
  refine a_icmp_gt (pc := 10) (tgt := 23) dX2_tallySent_10 (by decide) (fun c_10 => ?_) (fun c_10 => ?_)
  · exact absurd c_10 (nI_nlt (a := 9) (b := t + 1) (by omega) (by decide))
  · refine a_aload_n (pc := 13) dX2_tallySent_13 rfl rfl ?_
    refine a_getr (pc := 14) fl_X2_9 (by assumption) (by decide) (by rfl) dX2_tallySent_14 ?_
    refine a_iload_n (pc := 17) dX2_tallySent_17 rfl rfl ?_
    refine a_dup2 (pc := 18) dX2_tallySent_18 rfl rfl ?_
    refine a_iald (pc := 19)  (by assumption) rfl (by omega) (by decide) dX2_tallySent_19 ?_
    refine a_iconst (pc := 20) (v := 1) dX2_tallySent_20 (by decide) ?_
    refine a_iadd (pc := 21) dX2_tallySent_21 ?_
    refine a_iast (pc := 22)  (by assumption) rfl (by omega) (by decide) dX2_tallySent_22 ?_
    refine a_aload_n (pc := 23) dX2_tallySent_23 rfl rfl ?_
    refine a_dup (pc := 24) dX2_tallySent_24 rfl ?_
    refine a_geti (pc := 25) fl_X2_188 (by assumption) (by decide) (by rfl) dX2_tallySent_25 ?_
    refine a_iconst (pc := 28) (v := 1) dX2_tallySent_28 (by decide) ?_
    refine a_iadd (pc := 29) dX2_tallySent_29 ?_
    refine a_puti (pc := 30) fp_X2_188 (by assumption) (by decide) (by rfl) dX2_tallySent_30 ?_
    refine a_vret (pc := 33) rfl dX2_tallySent_33 ?_
    simp [tsF, up2_ne hx]

theorem pop_le : ∀ m, m < 64 → (nI (popN m) ≤ 1 ↔ ¬ 1 < popN m) := by decide +kernel
theorem eq0_of : ∀ m, m < 64 → (nI m = 0 ↔ m = 0) := by decide +kernel
def lsnF (μ : Mem) (n i m s t h : Nat) : Mem := if ¬ μ (stA n i + 7) 0 = 0 then awtF μ (stA n i) else if 1 < popN m then (if ¬ μ (stA n i) 9 = 0 then dwF (flF (up2 μ (stA n i) 5 (μ (stA n i) 5 + 1)) (stA n i) s (μ n 1) (μ n 2) (μ n 4)) n i else up2 μ (stA n i) 5 (μ (stA n i) 5 + 1)) else if m = 0 then (if ¬ μ (stA n i) 9 = 0 then dwF (flF μ (stA n i) s (μ n 1) (μ n 2) (μ n 4)) n i else μ) else
    if ¬ (gfF μ n i (lowF (nI m)).toNatClampNeg h).1 = 0 then dwF (clsF (tsF (gfF μ n i (lowF (nI m)).toNatClampNeg h).2 n (stA n i) t) (stA n i) s (μ n 1)) n i
    else if ¬ (gfF μ n i (lowF (nI m)).toNatClampNeg h).2 (stA n i) 9 = 0 then dwF (flF (gfF μ n i (lowF (nI m)).toNatClampNeg h).2 (stA n i) s (μ n 1) (μ n 2) (μ n 4)) n i else (gfF μ n i (lowF (nI m)).toNatClampNeg h).2
theorem low_ok : ∀ m, m < 64 → ∃ j, j < 6 ∧ lowF (nI m) = nI j ∧ (lowF (nI m)).toNatClampNeg = j := by
  intro m hm
  have h1 : ∀ m, m < 64 → (lowF (nI m)).toNatClampNeg < 6 ∧ lowF (nI m) = nI (lowF (nI m)).toNatClampNeg := by decide +kernel
  exact ⟨_, (h1 m hm).1, (h1 m hm).2, rfl⟩
theorem gfF_ne {μ : Mem} {n i j h x : Nat} (e0 : x < stA n i ∨ stA n i + 7 < x) : (gfF μ n i j h).2 x = μ x := by
  unfold gfF; split
  · exact takF_ne (by omega) (by omega)
  · exact ovhF_ne (by omega) (by omega) (by omega)
theorem gfF_row {μ : Mem} {n i j h : Nat} : (gfF μ n i j h).2 (stA n i + 1) = μ (stA n i + 1) := by
  unfold gfF; split
  · exact takF_ne (by omega) (by omega)
  · exact ovhF_ne (by omega) (by omega) (by omega)
theorem gfF_k {μ : Mem} {n i j h k : Nat} (e : k < 9) (e4 : k ≠ 4) : (gfF μ n i j h).2 (stA n i) k = μ (stA n i) k := by
  unfold gfF; split
  · exact takF_k e
  · exact ovhF_k e4
theorem gfF_9 {μ : Mem} {n i j h : Nat} (e : ¬ (gfF μ n i j h).2 (stA n i) 9 = 0) : ¬ μ (stA n i) 9 = 0 := by
  revert e; unfold gfF; split
  · intro e; rw [← takF_9 e]; exact e
  · intro e; exact fun e2 => e ((ovhF_k (by decide)).trans e2)
theorem gfF_1 {μ : Mem} {n i j h : Nat} (e : ¬ (gfF μ n i j h).1 = 0) : ¬ μ (stA n i) 9 = 0 := by
  revert e; unfold gfF; split
  · intro e; rw [takF_1 e]; decide
  · intro e; exact absurd rfl e
set_option maxHeartbeats 4000000 in
set_option maxRecDepth 100000 in
theorem c_X2_listen {μ : Mem} {n i m s t h : Nat} (hn : isNet n) (hi : i < 6) (hm : m < 64) (hh : μ n 7 &&& μ (stA n i) 0 = nI m) (hself : (lowF (nI m)).toNatClampNeg ≠ i ∨ m = 0) (hsz : ¬ μ (stA n i) 9 = 0 → μ (stA n i + 1) 0 = nI (s + 1) ∧ s < 6) (ht : μ (stA n i) 2 = nI t) (htl : t < 9) (hs : μ (stA n i + 4) 0 = nI h) (hl : h ≤ 6) : Con shC mX2_listen [.ref n, .int (nI i)] μ (fun _ u => u = lsnF μ n i m s t h) := by
  obtain ⟨hn0, hn1, hn2, hnS⟩ := id hn
  have ws := hnS i hi
  have w0 : shC[(stA n i)]? = _ := ws.1
  have w1 : shC[(stA n i) + 1]? = some (0, 3, [none, some ((stA n i) + 2), some ((stA n i) + 3)]) := ws.2.1.1
  have w2 : shC[(stA n i) + 2]? = some (100, 6, []) := ws.2.1.2.1
  have w3 : shC[(stA n i) + 3]? = some (100, 6, []) := ws.2.1.2.2
  have w4 : shC[(stA n i) + 4]? = some (1, 2, [none, some ((stA n i) + 5)]) := ws.2.2.1.1
  have w5 : shC[(stA n i) + 5]? = some (100, 24, []) := ws.2.2.1.2
  have w6 : shC[(stA n i) + 6]? = some (4, 4, [none, none, none, none]) := ws.2.2.2.1
  have w7 : shC[(stA n i) + 7]? = some (4, 4, [none, none, none, none]) := ws.2.2.2.2
  obtain ⟨jj, hj6, hjl, hjn⟩ := low_ok m hm
  have hst : n + 1 < stA n i := by unfold stA; omega
  have eg : ∀ j, (gfF μ n i j h).2 n = μ n := fun j => gfF_ne (Or.inl (by omega))
  have ets : ∀ ν : Mem, tsF ν n (stA n i) t n = ν n := fun ν => by unfold tsF; rw [up2_ne (by omega), up2_ne (by omega)]
  have e5 : ∀ v : Int32, up2 μ (stA n i) 5 v (stA n i) 9 = μ (stA n i) 9 := fun v => up2_k (by decide)
  have e6 : ∀ v : Int32, up2 μ (stA n i) 5 v n = μ n := fun v => up2_ne (by omega)
  refine Con.ofAW (al0 := [some (.ref n), some (.int (nI i)), none, none, none]) (by decide) rfl (Nat.le_of_ble_eq_true rfl) rfl ?_
  refine a_aload_n (pc := 0) dX2_listen_0 rfl rfl ?_
  refine a_getr (pc := 1) fl_X2_17 (by assumption) (by decide) (by rfl) dX2_listen_1 ?_
  refine a_iload_n (pc := 4) dX2_listen_4 rfl rfl ?_
  refine a_aald2 (pc := 5)  (by assumption) rfl (by omega) (by decide) (all_at hi) dX2_listen_5 ?_
  refine a_astore_n (pc := 6) (al' := [some (.ref _), some (.int _), some (.ref _), none, none]) dX2_listen_6 rfl (by decide) rfl rfl ?_
  refine a_aload_n (pc := 7) dX2_listen_7 rfl rfl ?_
  refine a_getr (pc := 8) fl_X2_144 (by assumption) (by decide) (by rfl) dX2_listen_8 ?_
  refine a_geti (pc := 11) fl_X2_110 (by assumption) (by decide) (by rfl) dX2_listen_11 ?_
  refine a_if_eq (pc := 14) (tgt := 22) dX2_listen_14 (by decide) (fun c_14 => ?_) (fun c_14 => ?_)
  · refine a_aload_n (pc := 22) dX2_listen_22 rfl rfl ?_
    refine a_geti (pc := 23) fl_X2_44 (by assumption) (by decide) (by rfl) dX2_listen_23 ?_
    refine a_aload_n (pc := 26) dX2_listen_26 rfl rfl ?_
    refine a_geti (pc := 27) fl_X2_60 (by assumption) (by decide) (by rfl) dX2_listen_27 ?_
    refine a_iand (pc := 30) dX2_listen_30 ?_
    refine a_top (y := nI m) hh ?_
    refine a_istore_n (pc := 31) (al' := [some (.ref _), some (.int _), some (.ref _), some (.int _), none]) dX2_listen_31 rfl (by decide) rfl rfl ?_
    refine a_iconst (pc := 32) (v := 0) dX2_listen_32 (by decide) ?_
    refine a_istore (pc := 33) (al' := [some (.ref _), some (.int _), some (.ref _), some (.int _), some (.int _)]) dX2_listen_33 (by decide) rfl rfl ?_
    refine a_iload_n (pc := 35) dX2_listen_35 rfl rfl ?_
    refine a_callS1 (pc := 36) cs_X2_150 ⟨(Nat.le_of_ble_eq_true rfl), (Nat.le_of_ble_eq_true rfl)⟩ (Nat.le_of_ble_eq_true rfl) dX2_listen_36 rfl (c_J6_bitCount hm) ?_
    rintro r u ⟨rfl, rfl⟩
    refine a_iconst (pc := 39) (v := 1) dX2_listen_39 (by decide) ?_
    refine a_icmp_le (pc := 40) (tgt := 56) dX2_listen_40 (by decide) (fun c_40 => ?_) (fun c_40 => ?_)
    · refine a_iload_n (pc := 56) dX2_listen_56 rfl rfl ?_
      refine a_if_eq (pc := 57) (tgt := 72) dX2_listen_57 (by decide) (fun c_57 => ?_) (fun c_57 => ?_)
      · refine a_iload (pc := 72) dX2_listen_72 rfl ?_
        refine a_if_eq (pc := 74) (tgt := 98) dX2_listen_74 (by decide) (fun c_74 => ?_) (fun c_74 => ?_)
        · refine a_aload_n (pc := 98) dX2_listen_98 rfl rfl ?_
          refine a_geti (pc := 99) fl_X2_103 (by assumption) (by decide) (by rfl) dX2_listen_99 ?_
          refine a_if_eq (pc := 102) (tgt := 126) dX2_listen_102 (by decide) (fun c_102 => ?_) (fun c_102 => ?_)
          · refine a_vret (pc := 126) rfl dX2_listen_126 ?_
            simp_all [lsnF, pop_le m hm, eq0_of m hm, -Int32.not_lt, -Int32.not_le, -Nat.not_lt]
          · refine a_aload_n (pc := 105) dX2_listen_105 rfl rfl ?_
            refine a_aload_n (pc := 106) dX2_listen_106 rfl rfl ?_
            refine a_geti (pc := 107) fl_X2_26 (by assumption) (by decide) (by rfl) dX2_listen_107 ?_
            refine a_aload_n (pc := 110) dX2_listen_110 rfl rfl ?_
            refine a_geti (pc := 111) fl_X2_29 (by assumption) (by decide) (by rfl) dX2_listen_111 ?_
            refine a_aload_n (pc := 114) dX2_listen_114 rfl rfl ?_
            refine a_geti (pc := 115) fl_X2_35 (by assumption) (by decide) (by rfl) dX2_listen_115 ?_
            refine a_callV3 (pc := 118) ck_X2_170 ⟨(Nat.le_of_ble_eq_true rfl), (Nat.le_of_ble_eq_true rfl)⟩ (by assumption) (by decide) (Nat.le_of_ble_eq_true rfl) dX2_listen_118 rfl (c_X5_failLetter (s := s) ws (by first | exact (hsz c_102).1 | (rw [gfF_row]; exact (hsz (gfF_9 c_102)).1) | (rw [up2_ne (by omega)]; exact (hsz (by rw [up2_k (by decide)] at c_102; exact c_102)).1)) (by first | exact (hsz c_102).2 | exact (hsz (gfF_9 c_102)).2 | exact (hsz (by rw [up2_k (by decide)] at c_102; exact c_102)).2)) ?_
            rintro u rfl
            refine a_aload_n (pc := 121) dX2_listen_121 rfl rfl ?_
            refine a_iload_n (pc := 122) dX2_listen_122 rfl rfl ?_
            refine a_callV1 (pc := 123) ck_X2_77 ⟨(Nat.le_of_ble_eq_true rfl), (Nat.le_of_ble_eq_true rfl)⟩ (by assumption) (by decide) (Nat.le_of_ble_eq_true rfl) dX2_listen_123 rfl (c_X2_drawWait hn hi) ?_
            rintro u rfl
            refine a_vret (pc := 126) rfl dX2_listen_126 ?_
            simp_all [lsnF, pop_le m hm, eq0_of m hm, -Int32.not_lt, -Int32.not_le, -Nat.not_lt]
        · exact absurd c_74 (by decide)
      · have hm0 : ¬ m = 0 := fun e => c_57 (by rw [e]; rfl)
        have hij : i ≠ (lowF (nI m)).toNatClampNeg := fun e => hself.elim (fun q => q e.symm) hm0
        refine a_aload_n (pc := 60) dX2_listen_60 rfl rfl ?_
        refine a_iload_n (pc := 61) dX2_listen_61 rfl rfl ?_
        refine a_aload_n (pc := 62) dX2_listen_62 rfl rfl ?_
        refine a_iload_n (pc := 63) dX2_listen_63 rfl rfl ?_
        refine a_callI1 (pc := 64) ck_X2_158 ⟨(Nat.le_of_ble_eq_true rfl), (Nat.le_of_ble_eq_true rfl)⟩ (by assumption) (by decide) (Nat.le_of_ble_eq_true rfl) dX2_listen_64 rfl c_X2_lowestOf ?_
        rintro r u ⟨rfl, rfl⟩
        rw [hjl]
        refine a_callI2 (pc := 67) ck_X2_161 ⟨(Nat.le_of_ble_eq_true rfl), (Nat.le_of_ble_eq_true rfl)⟩ (by assumption) (by decide) (Nat.le_of_ble_eq_true rfl) dX2_listen_67 rfl (c_X2_getFrom hn hi hj6 (hjn ▸ hij) hs hl) ?_
        rintro r u ⟨rfl, rfl⟩
        refine a_istore (pc := 70) (al' := [some (.ref _), some (.int _), some (.ref _), some (.int _), some (.int _)]) dX2_listen_70 (by decide) rfl rfl ?_
        refine a_iload (pc := 72) dX2_listen_72 rfl ?_
        refine a_if_eq (pc := 74) (tgt := 98) dX2_listen_74 (by decide) (fun c_74 => ?_) (fun c_74 => ?_)
        · refine a_aload_n (pc := 98) dX2_listen_98 rfl rfl ?_
          refine a_geti (pc := 99) fl_X2_103 (by assumption) (by decide) (by rfl) dX2_listen_99 ?_
          refine a_if_eq (pc := 102) (tgt := 126) dX2_listen_102 (by decide) (fun c_102 => ?_) (fun c_102 => ?_)
          · refine a_vret (pc := 126) rfl dX2_listen_126 ?_
            simp_all [lsnF, pop_le m hm, eq0_of m hm, -Int32.not_lt, -Int32.not_le, -Nat.not_lt]
          · refine a_aload_n (pc := 105) dX2_listen_105 rfl rfl ?_
            refine a_aload_n (pc := 106) dX2_listen_106 rfl rfl ?_
            refine a_geti (pc := 107) fl_X2_26 (by assumption) (by decide) (by rfl) dX2_listen_107 ?_
            refine a_aload_n (pc := 110) dX2_listen_110 rfl rfl ?_
            refine a_geti (pc := 111) fl_X2_29 (by assumption) (by decide) (by rfl) dX2_listen_111 ?_
            refine a_aload_n (pc := 114) dX2_listen_114 rfl rfl ?_
            refine a_geti (pc := 115) fl_X2_35 (by assumption) (by decide) (by rfl) dX2_listen_115 ?_
            refine a_callV3 (pc := 118) ck_X2_170 ⟨(Nat.le_of_ble_eq_true rfl), (Nat.le_of_ble_eq_true rfl)⟩ (by assumption) (by decide) (Nat.le_of_ble_eq_true rfl) dX2_listen_118 rfl (c_X5_failLetter (s := s) ws (by first | exact (hsz c_102).1 | (rw [gfF_row]; exact (hsz (gfF_9 c_102)).1) | (rw [up2_ne (by omega)]; exact (hsz (by rw [up2_k (by decide)] at c_102; exact c_102)).1)) (by first | exact (hsz c_102).2 | exact (hsz (gfF_9 c_102)).2 | exact (hsz (by rw [up2_k (by decide)] at c_102; exact c_102)).2)) ?_
            rintro u rfl
            refine a_aload_n (pc := 121) dX2_listen_121 rfl rfl ?_
            refine a_iload_n (pc := 122) dX2_listen_122 rfl rfl ?_
            refine a_callV1 (pc := 123) ck_X2_77 ⟨(Nat.le_of_ble_eq_true rfl), (Nat.le_of_ble_eq_true rfl)⟩ (by assumption) (by decide) (Nat.le_of_ble_eq_true rfl) dX2_listen_123 rfl (c_X2_drawWait hn hi) ?_
            rintro u rfl
            refine a_vret (pc := 126) rfl dX2_listen_126 ?_
            simp_all [lsnF, pop_le m hm, eq0_of m hm, -Int32.not_lt, -Int32.not_le, -Nat.not_lt]
        · refine a_aload_n (pc := 77) dX2_listen_77 rfl rfl ?_
          refine a_aload_n (pc := 78) dX2_listen_78 rfl rfl ?_
          refine a_callV1 (pc := 79) ck_X2_164 ⟨(Nat.le_of_ble_eq_true rfl), (Nat.le_of_ble_eq_true rfl)⟩ (by assumption) (by decide) (Nat.le_of_ble_eq_true rfl) dX2_listen_79 rfl (c_X2_tallySent (t := t) hn ws (by omega) (by rw [gfF_k (by decide) (by decide)]; exact ht) htl) ?_
          rintro u rfl
          refine a_aload_n (pc := 82) dX2_listen_82 rfl rfl ?_
          refine a_aload_n (pc := 83) dX2_listen_83 rfl rfl ?_
          refine a_geti (pc := 84) fl_X2_26 (by assumption) (by decide) (by rfl) dX2_listen_84 ?_
          refine a_callV1 (pc := 87) ck_X2_167 ⟨(Nat.le_of_ble_eq_true rfl), (Nat.le_of_ble_eq_true rfl)⟩ (by assumption) (by decide) (Nat.le_of_ble_eq_true rfl) dX2_listen_87 rfl (c_X5_closeLetter (s := s) ws (by simp [tsF, up2]; rw [if_neg (by omega), gfF_row]; exact (hsz (gfF_1 c_74)).1) (hsz (gfF_1 c_74)).2) ?_
          rintro u rfl
          refine a_aload_n (pc := 90) dX2_listen_90 rfl rfl ?_
          refine a_iload_n (pc := 91) dX2_listen_91 rfl rfl ?_
          refine a_callV1 (pc := 92) ck_X2_77 ⟨(Nat.le_of_ble_eq_true rfl), (Nat.le_of_ble_eq_true rfl)⟩ (by assumption) (by decide) (Nat.le_of_ble_eq_true rfl) dX2_listen_92 rfl (c_X2_drawWait hn hi) ?_
          rintro u rfl
          refine a_goto (pc := 95) (tgt := 126) dX2_listen_95 (by decide) ?_
          refine a_vret (pc := 126) rfl dX2_listen_126 ?_
          simp_all [lsnF, pop_le m hm, eq0_of m hm, -Int32.not_lt, -Int32.not_le, -Nat.not_lt]
    · refine a_aload_n (pc := 43) dX2_listen_43 rfl rfl ?_
      refine a_dup (pc := 44) dX2_listen_44 rfl ?_
      refine a_geti (pc := 45) fl_X2_155 (by assumption) (by decide) (by rfl) dX2_listen_45 ?_
      refine a_iconst (pc := 48) (v := 1) dX2_listen_48 (by decide) ?_
      refine a_iadd (pc := 49) dX2_listen_49 ?_
      refine a_puti (pc := 50) fp_X2_155 (by assumption) (by decide) (by rfl) dX2_listen_50 ?_
      refine a_goto (pc := 53) (tgt := 72) dX2_listen_53 (by decide) ?_
      refine a_iload (pc := 72) dX2_listen_72 rfl ?_
      refine a_if_eq (pc := 74) (tgt := 98) dX2_listen_74 (by decide) (fun c_74 => ?_) (fun c_74 => ?_)
      · refine a_aload_n (pc := 98) dX2_listen_98 rfl rfl ?_
        refine a_geti (pc := 99) fl_X2_103 (by assumption) (by decide) (by rfl) dX2_listen_99 ?_
        refine a_if_eq (pc := 102) (tgt := 126) dX2_listen_102 (by decide) (fun c_102 => ?_) (fun c_102 => ?_)
        · refine a_vret (pc := 126) rfl dX2_listen_126 ?_
          simp_all [lsnF, pop_le m hm, eq0_of m hm, -Int32.not_lt, -Int32.not_le, -Nat.not_lt]
        · refine a_aload_n (pc := 105) dX2_listen_105 rfl rfl ?_
          refine a_aload_n (pc := 106) dX2_listen_106 rfl rfl ?_
          refine a_geti (pc := 107) fl_X2_26 (by assumption) (by decide) (by rfl) dX2_listen_107 ?_
          refine a_aload_n (pc := 110) dX2_listen_110 rfl rfl ?_
          refine a_geti (pc := 111) fl_X2_29 (by assumption) (by decide) (by rfl) dX2_listen_111 ?_
          refine a_aload_n (pc := 114) dX2_listen_114 rfl rfl ?_
          refine a_geti (pc := 115) fl_X2_35 (by assumption) (by decide) (by rfl) dX2_listen_115 ?_
          refine a_callV3 (pc := 118) ck_X2_170 ⟨(Nat.le_of_ble_eq_true rfl), (Nat.le_of_ble_eq_true rfl)⟩ (by assumption) (by decide) (Nat.le_of_ble_eq_true rfl) dX2_listen_118 rfl (c_X5_failLetter (s := s) ws (by first | exact (hsz c_102).1 | (rw [gfF_row]; exact (hsz (gfF_9 c_102)).1) | (rw [up2_ne (by omega)]; exact (hsz (by rw [up2_k (by decide)] at c_102; exact c_102)).1)) (by first | exact (hsz c_102).2 | exact (hsz (gfF_9 c_102)).2 | exact (hsz (by rw [up2_k (by decide)] at c_102; exact c_102)).2)) ?_
          rintro u rfl
          refine a_aload_n (pc := 121) dX2_listen_121 rfl rfl ?_
          refine a_iload_n (pc := 122) dX2_listen_122 rfl rfl ?_
          refine a_callV1 (pc := 123) ck_X2_77 ⟨(Nat.le_of_ble_eq_true rfl), (Nat.le_of_ble_eq_true rfl)⟩ (by assumption) (by decide) (Nat.le_of_ble_eq_true rfl) dX2_listen_123 rfl (c_X2_drawWait hn hi) ?_
          rintro u rfl
          refine a_vret (pc := 126) rfl dX2_listen_126 ?_
          simp_all [lsnF, pop_le m hm, eq0_of m hm, -Int32.not_lt, -Int32.not_le, -Nat.not_lt]
      · exact absurd c_74 (by decide)
  · refine a_aload_n (pc := 17) dX2_listen_17 rfl rfl ?_
    refine a_callV0 (pc := 18) ck_X2_147 ⟨(Nat.le_of_ble_eq_true rfl), (Nat.le_of_ble_eq_true rfl)⟩ (by assumption) (by decide) (Nat.le_of_ble_eq_true rfl) dX2_listen_18 rfl (c_X5_awaitAnswer ws) ?_
    rintro u rfl
    refine a_vret (pc := 21) rfl dX2_listen_21 ?_
    simp_all [lsnF, pop_le m hm, eq0_of m hm, -Int32.not_lt, -Int32.not_le, -Nat.not_lt]
end
section
/-! the reference's objects: 0 the model, 1 text, 2 row, 3 was, 4 readRule, 5 what, 6 whom, 7 wide, 8 part -/
def shM : Shp := [(7, 18, [none, some 1, none, none, none, none, none, some 2, some 3, none, none, some 4, none, none, some 5, some 6, some 7, some 8]), (100, 200, []), (100, 1320, []), (100, 1760, []), (100, 4, []), (100, 6, []), (100, 6, []), (100, 6, []), (100, 6, [])]
theorem up2_ap (μ : Mem) (o k : Nat) (v : Int32) (o' k' : Nat) : up2 μ o k v o' k' = if o' = o then (if k' = k then v else μ o k') else μ o' k' := by
  unfold up2; by_cases h : o' = o
  · subst h; simp [upd]
  · simp [h]
theorem upA_ap (μ : Mem) (o : Nat) (f : Nat → Int32) (o' : Nat) : upA μ o f o' = if o' = o then f else μ o' := rfl
theorem upd_ap (f : Nat → Int32) (k : Nat) (v : Int32) (j : Nat) : upd f k v j = if j = k then v else f j := by unfold upd; rfl
set_option maxHeartbeats 4000000 in
set_option maxRecDepth 100000 in
theorem c_X7_at {ν : Mem} {r i : Nat} : Con shM mX7_at [.int (nI r), .int (nI i)] ν (fun q u => q = nI (440 * r + 70 * i) ∧ ν = u) := by
  refine Con.ofAW (al0 := [some (.int (nI r)), some (.int (nI i))]) (by decide) rfl (Nat.le_of_ble_eq_true rfl) rfl ?_
  refine a_sipush (pc := 0) (v := 440) dX7_at_0 (by decide) ?_
  refine a_iload_n (pc := 3) dX7_at_3 rfl rfl ?_
  refine a_imulN (pc := 4) (a := 440) (b := _) rfl rfl dX7_at_4 ?_
  refine a_bipush (pc := 5) (v := 70) dX7_at_5 (by decide) ?_
  refine a_iload_n (pc := 7) dX7_at_7 rfl rfl ?_
  refine a_imulN (pc := 8) (a := 70) (b := _) rfl rfl dX7_at_8 ?_
  refine a_iaddN (pc := 9) (a := _) (b := _) rfl rfl dX7_at_9 ?_
  refine a_iret (pc := 10) rfl dX7_at_10 ?_
  exact ⟨rfl, rfl⟩

set_option maxHeartbeats 4000000 in
set_option maxRecDepth 100000 in
theorem c_X7_isIn {ν : Mem} {v lo hi : Int32} : Con shM mX7_isIn [.int v, .int lo, .int hi] ν (fun q u => (q = 1 ∧ ¬ v < lo ∧ ¬ hi < v ∨ q = 0 ∧ (v < lo ∨ hi < v)) ∧ ν = u) := by
  refine Con.ofAW (al0 := [some (.int v), some (.int lo), some (.int hi)]) (by decide) rfl (Nat.le_of_ble_eq_true rfl) rfl ?_
  refine a_iload_n (pc := 0) dX7_isIn_0 rfl rfl ?_
  refine a_iload_n (pc := 1) dX7_isIn_1 rfl rfl ?_
  refine a_icmp_lt (pc := 2) (tgt := 14) dX7_isIn_2 (by decide) (fun c_2 => ?_) (fun c_2 => ?_)
  · refine a_iconst (pc := 14) (v := 0) dX7_isIn_14 (by decide) ?_
    refine a_zret (pc := 15) rfl (by rfl) dX7_isIn_15 ?_
    simp_all [-Int32.not_lt, -Int32.not_le, -Nat.not_lt]
  · refine a_iload_n (pc := 5) dX7_isIn_5 rfl rfl ?_
    refine a_iload_n (pc := 6) dX7_isIn_6 rfl rfl ?_
    refine a_icmp_gt (pc := 7) (tgt := 14) dX7_isIn_7 (by decide) (fun c_7 => ?_) (fun c_7 => ?_)
    · refine a_iconst (pc := 14) (v := 0) dX7_isIn_14 (by decide) ?_
      refine a_zret (pc := 15) rfl (by rfl) dX7_isIn_15 ?_
      simp_all [-Int32.not_lt, -Int32.not_le, -Nat.not_lt]
    · refine a_iconst (pc := 10) (v := 1) dX7_isIn_10 (by decide) ?_
      refine a_goto (pc := 11) (tgt := 15) dX7_isIn_11 (by decide) ?_
      refine a_zret (pc := 15) rfl (by rfl) dX7_isIn_15 ?_
      simp_all [-Int32.not_lt, -Int32.not_le, -Nat.not_lt]

set_option maxHeartbeats 4000000 in
set_option maxRecDepth 100000 in
theorem c_X7_has {ν : Mem} {x j : Int32} : Con shM mX7_has [.int x, .int j] ν (fun q u => (q = 1 ∧ bitF x j ∨ q = 0 ∧ ¬ bitF x j) ∧ ν = u) := by
  refine Con.ofAW (al0 := [some (.int x), some (.int j)]) (by decide) rfl (Nat.le_of_ble_eq_true rfl) rfl ?_
  refine a_iload_n (pc := 0) dX7_has_0 rfl rfl ?_
  refine a_iload_n (pc := 1) dX7_has_1 rfl rfl ?_
  refine a_ishr (pc := 2) dX7_has_2 ?_
  refine a_iconst (pc := 3) (v := 1) dX7_has_3 (by decide) ?_
  refine a_iand (pc := 4) dX7_has_4 ?_
  refine a_iconst (pc := 5) (v := 1) dX7_has_5 (by decide) ?_
  refine a_icmp_ne (pc := 6) (tgt := 13) dX7_has_6 (by decide) (fun c_6 => ?_) (fun c_6 => ?_)
  · refine a_iconst (pc := 13) (v := 0) dX7_has_13 (by decide) ?_
    refine a_zret (pc := 14) rfl (by rfl) dX7_has_14 ?_
    simp_all [bitF]
  · refine a_iconst (pc := 9) (v := 1) dX7_has_9 (by decide) ?_
    refine a_goto (pc := 10) (tgt := 14) dX7_has_10 (by decide) ?_
    refine a_zret (pc := 14) rfl (by rfl) dX7_has_14 ?_
    simp_all [bitF]

set_option maxHeartbeats 4000000 in
set_option maxRecDepth 100000 in
theorem c_X7_bits {ν : Mem} {m : Nat} (hm : m < 64) : Con shM mX7_bits [.int (nI m)] ν (fun q u => q = nI (popN m) ∧ ν = u) := by
  refine Con.ofAW (al0 := [some (.int (nI m)), none, none]) (by decide) rfl (Nat.le_of_ble_eq_true rfl) rfl ?_
  refine a_iconst (pc := 0) (v := 0) dX7_bits_0 (by decide) ?_
  refine a_istore_n (pc := 1) (al' := [some (.int _), some (.int _), none]) dX7_bits_1 rfl (by decide) rfl rfl ?_
  refine a_iconst (pc := 2) (v := 0) dX7_bits_2 (by decide) ?_
  refine a_istore_n (pc := 3) (al' := [some (.int _), some (.int _), some (.int _)]) dX7_bits_3 rfl (by decide) rfl rfl ?_
  refine a_iload_n (pc := 4) dX7_bits_4 rfl rfl ?_
  refine a_bipush (pc := 5) (v := 6) dX7_bits_5 (by decide) ?_
  refine a_icmp_ge (pc := 7) (tgt := 24) dX7_bits_7 (by decide) (fun c_7 => ?_) (fun c_7 => ?_)
  · exact absurd c_7 (by decide)
  · refine a_iload_n (pc := 10) dX7_bits_10 rfl rfl ?_
    refine a_iload_n (pc := 11) dX7_bits_11 rfl rfl ?_
    refine a_iload_n (pc := 12) dX7_bits_12 rfl rfl ?_
    refine a_ishr (pc := 13) dX7_bits_13 ?_
    refine a_iconst (pc := 14) (v := 1) dX7_bits_14 (by decide) ?_
    refine a_iand (pc := 15) dX7_bits_15 ?_
    refine a_iadd (pc := 16) dX7_bits_16 ?_
    refine a_istore_n (pc := 17) (al' := [some (.int _), some (.int _), some (.int _)]) dX7_bits_17 rfl (by decide) rfl rfl ?_
    refine a_iinc (pc := 18) (v := 1) (al' := [some (.int _), some (.int _), some (.int _)]) dX7_bits_18 rfl (by decide) (by decide) rfl rfl ?_
    refine a_goto (pc := 21) (tgt := 4) dX7_bits_21 (by decide) ?_
    refine a_iload_n (pc := 4) dX7_bits_4 rfl rfl ?_
    refine a_bipush (pc := 5) (v := 6) dX7_bits_5 (by decide) ?_
    refine a_icmp_ge (pc := 7) (tgt := 24) dX7_bits_7 (by decide) (fun c_7 => ?_) (fun c_7 => ?_)
    · exact absurd c_7 (by decide)
    · refine a_iload_n (pc := 10) dX7_bits_10 rfl rfl ?_
      refine a_iload_n (pc := 11) dX7_bits_11 rfl rfl ?_
      refine a_iload_n (pc := 12) dX7_bits_12 rfl rfl ?_
      refine a_ishr (pc := 13) dX7_bits_13 ?_
      refine a_iconst (pc := 14) (v := 1) dX7_bits_14 (by decide) ?_
      refine a_iand (pc := 15) dX7_bits_15 ?_
      refine a_iadd (pc := 16) dX7_bits_16 ?_
      refine a_istore_n (pc := 17) (al' := [some (.int _), some (.int _), some (.int _)]) dX7_bits_17 rfl (by decide) rfl rfl ?_
      refine a_iinc (pc := 18) (v := 2) (al' := [some (.int _), some (.int _), some (.int _)]) dX7_bits_18 rfl (by decide) (by decide) rfl rfl ?_
      refine a_goto (pc := 21) (tgt := 4) dX7_bits_21 (by decide) ?_
      refine a_iload_n (pc := 4) dX7_bits_4 rfl rfl ?_
      refine a_bipush (pc := 5) (v := 6) dX7_bits_5 (by decide) ?_
      refine a_icmp_ge (pc := 7) (tgt := 24) dX7_bits_7 (by decide) (fun c_7 => ?_) (fun c_7 => ?_)
      · exact absurd c_7 (by decide)
      · refine a_iload_n (pc := 10) dX7_bits_10 rfl rfl ?_
        refine a_iload_n (pc := 11) dX7_bits_11 rfl rfl ?_
        refine a_iload_n (pc := 12) dX7_bits_12 rfl rfl ?_
        refine a_ishr (pc := 13) dX7_bits_13 ?_
        refine a_iconst (pc := 14) (v := 1) dX7_bits_14 (by decide) ?_
        refine a_iand (pc := 15) dX7_bits_15 ?_
        refine a_iadd (pc := 16) dX7_bits_16 ?_
        refine a_istore_n (pc := 17) (al' := [some (.int _), some (.int _), some (.int _)]) dX7_bits_17 rfl (by decide) rfl rfl ?_
        refine a_iinc (pc := 18) (v := 3) (al' := [some (.int _), some (.int _), some (.int _)]) dX7_bits_18 rfl (by decide) (by decide) rfl rfl ?_
        refine a_goto (pc := 21) (tgt := 4) dX7_bits_21 (by decide) ?_
        refine a_iload_n (pc := 4) dX7_bits_4 rfl rfl ?_
        refine a_bipush (pc := 5) (v := 6) dX7_bits_5 (by decide) ?_
        refine a_icmp_ge (pc := 7) (tgt := 24) dX7_bits_7 (by decide) (fun c_7 => ?_) (fun c_7 => ?_)
        · exact absurd c_7 (by decide)
        · refine a_iload_n (pc := 10) dX7_bits_10 rfl rfl ?_
          refine a_iload_n (pc := 11) dX7_bits_11 rfl rfl ?_
          refine a_iload_n (pc := 12) dX7_bits_12 rfl rfl ?_
          refine a_ishr (pc := 13) dX7_bits_13 ?_
          refine a_iconst (pc := 14) (v := 1) dX7_bits_14 (by decide) ?_
          refine a_iand (pc := 15) dX7_bits_15 ?_
          refine a_iadd (pc := 16) dX7_bits_16 ?_
          refine a_istore_n (pc := 17) (al' := [some (.int _), some (.int _), some (.int _)]) dX7_bits_17 rfl (by decide) rfl rfl ?_
          refine a_iinc (pc := 18) (v := 4) (al' := [some (.int _), some (.int _), some (.int _)]) dX7_bits_18 rfl (by decide) (by decide) rfl rfl ?_
          refine a_goto (pc := 21) (tgt := 4) dX7_bits_21 (by decide) ?_
          refine a_iload_n (pc := 4) dX7_bits_4 rfl rfl ?_
          refine a_bipush (pc := 5) (v := 6) dX7_bits_5 (by decide) ?_
          refine a_icmp_ge (pc := 7) (tgt := 24) dX7_bits_7 (by decide) (fun c_7 => ?_) (fun c_7 => ?_)
          · exact absurd c_7 (by decide)
          · refine a_iload_n (pc := 10) dX7_bits_10 rfl rfl ?_
            refine a_iload_n (pc := 11) dX7_bits_11 rfl rfl ?_
            refine a_iload_n (pc := 12) dX7_bits_12 rfl rfl ?_
            refine a_ishr (pc := 13) dX7_bits_13 ?_
            refine a_iconst (pc := 14) (v := 1) dX7_bits_14 (by decide) ?_
            refine a_iand (pc := 15) dX7_bits_15 ?_
            refine a_iadd (pc := 16) dX7_bits_16 ?_
            refine a_istore_n (pc := 17) (al' := [some (.int _), some (.int _), some (.int _)]) dX7_bits_17 rfl (by decide) rfl rfl ?_
            refine a_iinc (pc := 18) (v := 5) (al' := [some (.int _), some (.int _), some (.int _)]) dX7_bits_18 rfl (by decide) (by decide) rfl rfl ?_
            refine a_goto (pc := 21) (tgt := 4) dX7_bits_21 (by decide) ?_
            refine a_iload_n (pc := 4) dX7_bits_4 rfl rfl ?_
            refine a_bipush (pc := 5) (v := 6) dX7_bits_5 (by decide) ?_
            refine a_icmp_ge (pc := 7) (tgt := 24) dX7_bits_7 (by decide) (fun c_7 => ?_) (fun c_7 => ?_)
            · exact absurd c_7 (by decide)
            · refine a_iload_n (pc := 10) dX7_bits_10 rfl rfl ?_
              refine a_iload_n (pc := 11) dX7_bits_11 rfl rfl ?_
              refine a_iload_n (pc := 12) dX7_bits_12 rfl rfl ?_
              refine a_ishr (pc := 13) dX7_bits_13 ?_
              refine a_iconst (pc := 14) (v := 1) dX7_bits_14 (by decide) ?_
              refine a_iand (pc := 15) dX7_bits_15 ?_
              refine a_iadd (pc := 16) dX7_bits_16 ?_
              refine a_istore_n (pc := 17) (al' := [some (.int _), some (.int _), some (.int _)]) dX7_bits_17 rfl (by decide) rfl rfl ?_
              refine a_iinc (pc := 18) (v := 6) (al' := [some (.int _), some (.int _), some (.int _)]) dX7_bits_18 rfl (by decide) (by decide) rfl rfl ?_
              refine a_goto (pc := 21) (tgt := 4) dX7_bits_21 (by decide) ?_
              refine a_iload_n (pc := 4) dX7_bits_4 rfl rfl ?_
              refine a_bipush (pc := 5) (v := 6) dX7_bits_5 (by decide) ?_
              refine a_icmp_ge (pc := 7) (tgt := 24) dX7_bits_7 (by decide) (fun c_7 => ?_) (fun c_7 => ?_)
              · refine a_iload_n (pc := 24) dX7_bits_24 rfl rfl ?_
                refine a_iret (pc := 25) rfl dX7_bits_25 ?_
                refine ⟨?_, rfl⟩
                clear c_7
                revert hm m
                decide +kernel
              · exact absurd c_7 (by decide)

set_option maxHeartbeats 4000000 in
set_option maxRecDepth 100000 in
theorem c_X7_drawn {ν : Mem} {r i : Nat} {k : Int32} (hr : r < 3) : Con shM mX7_drawn [.ref 0, .int (nI r), .int (nI i), .int k] ν (fun q u => q = drnF (ν 2 (440 * r + 428)) (nI i) k ∧ ν = u) := by
  have m0 : shM[0]? = some (7, 18, [none, some 1, none, none, none, none, none, some 2, some 3, none, none, some 4, none, none, some 5, some 6, some 7, some 8]) := rfl
  have m1 : shM[1]? = some (100, 200, []) := rfl
  have m2 : shM[2]? = some (100, 1320, []) := rfl
  have m3 : shM[3]? = some (100, 1760, []) := rfl
  have m4 : shM[4]? = some (100, 4, []) := rfl
  have m5 : shM[5]? = some (100, 6, []) := rfl
  have m6 : shM[6]? = some (100, 6, []) := rfl
  have m7 : shM[7]? = some (100, 6, []) := rfl
  have m8 : shM[8]? = some (100, 6, []) := rfl
  refine Con.ofAW (al0 := [some (.ref 0), some (.int (nI r)), some (.int (nI i)), some (.int k), none, none]) (by decide) rfl (Nat.le_of_ble_eq_true rfl) rfl ?_
  refine a_ldc2 (pc := 0) dX7_drawn_0 kc_X7_126 ?_
  refine a_aload_n (pc := 3) dX7_drawn_3 rfl rfl ?_
  refine a_getr (pc := 4) fl_X7_13 (by assumption) (by decide) (by rfl) dX7_drawn_4 ?_
  refine a_sipush (pc := 7) (v := 440) dX7_drawn_7 (by decide) ?_
  refine a_iload_n (pc := 10) dX7_drawn_10 rfl rfl ?_
  refine a_imulN (pc := 11) (a := 440) (b := _) rfl rfl dX7_drawn_11 ?_
  refine a_sipush (pc := 12) (v := 428) dX7_drawn_12 (by decide) ?_
  refine a_iaddN (pc := 15) (a := _) (b := 428) rfl rfl dX7_drawn_15 ?_
  refine a_iald (pc := 16)  (by assumption) rfl (by omega) (by decide) dX7_drawn_16 ?_
  refine a_i2l (pc := 17) dX7_drawn_17 ?_
  refine a_lmul (pc := 18) dX7_drawn_18 ?_
  refine a_ldc2 (pc := 19) dX7_drawn_19 kc_X7_128 ?_
  refine a_iload_n (pc := 22) dX7_drawn_22 rfl rfl ?_
  refine a_i2l (pc := 23) dX7_drawn_23 ?_
  refine a_lmul (pc := 24) dX7_drawn_24 ?_
  refine a_ladd (pc := 25) dX7_drawn_25 ?_
  refine a_ldc2 (pc := 26) dX7_drawn_26 kc_X7_130 ?_
  refine a_iload_n (pc := 29) dX7_drawn_29 rfl rfl ?_
  refine a_i2l (pc := 30) dX7_drawn_30 ?_
  refine a_lmul (pc := 31) dX7_drawn_31 ?_
  refine a_ladd (pc := 32) dX7_drawn_32 ?_
  refine a_lconst (pc := 33) (v := 1) dX7_drawn_33 (by decide) ?_
  refine a_ladd (pc := 34) dX7_drawn_34 ?_
  refine a_lstore (pc := 35) (al' := [some (.ref _), some (.int _), some (.int _), some (.int _), some (.long _), none]) dX7_drawn_35 (by decide) rfl rfl ?_
  refine a_lload (pc := 37) dX7_drawn_37 rfl ?_
  refine a_lload (pc := 39) dX7_drawn_39 rfl ?_
  refine a_lmul (pc := 41) dX7_drawn_41 ?_
  refine a_ldc2 (pc := 42) dX7_drawn_42 kc_X7_132 ?_
  refine a_lrem (pc := 45) dX7_drawn_45 (by decide) ?_
  refine a_l2i (pc := 46) dX7_drawn_46 ?_
  refine a_iret (pc := 47) rfl dX7_drawn_47 ?_
  exact ⟨rfl, rfl⟩

def wtsF (f : Nat → Int32) (b i : Nat) : Nat → Int32 := upd (upd f (b + 70 * i + 2) (remF (drnF (f (b + 428)) (nI i) (f (b + 70 * i + 7))) (f (b + 70 * i)))) (b + 70 * i + 7) (f (b + 70 * i + 7) + 1)
set_option maxHeartbeats 4000000 in
set_option maxRecDepth 100000 in
theorem c_X7_waits {ν : Mem} {r i : Nat} (hr : r < 3) (hi : i < 6) (hw : ¬ ν 2 (440 * r + 70 * i) = 0) : Con shM mX7_waits [.ref 0, .int (nI r), .int (nI i)] ν (fun _ u => u = upA ν 2 (wtsF (ν 2) (440 * r) i)) := by
  have m0 : shM[0]? = some (7, 18, [none, some 1, none, none, none, none, none, some 2, some 3, none, none, some 4, none, none, some 5, some 6, some 7, some 8]) := rfl
  have m1 : shM[1]? = some (100, 200, []) := rfl
  have m2 : shM[2]? = some (100, 1320, []) := rfl
  have m3 : shM[3]? = some (100, 1760, []) := rfl
  have m4 : shM[4]? = some (100, 4, []) := rfl
  have m5 : shM[5]? = some (100, 6, []) := rfl
  have m6 : shM[6]? = some (100, 6, []) := rfl
  have m7 : shM[7]? = some (100, 6, []) := rfl
  have m8 : shM[8]? = some (100, 6, []) := rfl
  refine Con.ofAW (al0 := [some (.ref 0), some (.int (nI r)), some (.int (nI i)), none]) (by decide) rfl (Nat.le_of_ble_eq_true rfl) rfl ?_
  refine a_iload_n (pc := 0) dX7_waits_0 rfl rfl ?_
  refine a_iload_n (pc := 1) dX7_waits_1 rfl rfl ?_
  refine a_callS2 (pc := 2) cs_X7_52 ⟨(Nat.le_of_ble_eq_true rfl), (Nat.le_of_ble_eq_true rfl)⟩ (Nat.le_of_ble_eq_true rfl) dX7_waits_2 rfl c_X7_at ?_
  rintro r_ u ⟨rfl, rfl⟩
  refine a_istore_n (pc := 5) (al' := [some (.ref _), some (.int _), some (.int _), some (.int _)]) dX7_waits_5 rfl (by decide) rfl rfl ?_
  refine a_aload_n (pc := 6) dX7_waits_6 rfl rfl ?_
  refine a_getr (pc := 7) fl_X7_13 (by assumption) (by decide) (by rfl) dX7_waits_7 ?_
  refine a_iload_n (pc := 10) dX7_waits_10 rfl rfl ?_
  refine a_iconst (pc := 11) (v := 2) dX7_waits_11 (by decide) ?_
  refine a_iaddN (pc := 12) (a := _) (b := 2) rfl rfl dX7_waits_12 ?_
  refine a_aload_n (pc := 13) dX7_waits_13 rfl rfl ?_
  refine a_iload_n (pc := 14) dX7_waits_14 rfl rfl ?_
  refine a_iload_n (pc := 15) dX7_waits_15 rfl rfl ?_
  refine a_aload_n (pc := 16) dX7_waits_16 rfl rfl ?_
  refine a_getr (pc := 17) fl_X7_13 (by assumption) (by decide) (by rfl) dX7_waits_17 ?_
  refine a_iload_n (pc := 20) dX7_waits_20 rfl rfl ?_
  refine a_bipush (pc := 21) (v := 7) dX7_waits_21 (by decide) ?_
  refine a_iaddN (pc := 23) (a := _) (b := 7) rfl rfl dX7_waits_23 ?_
  refine a_iald (pc := 24)  (by assumption) rfl (by omega) (by decide) dX7_waits_24 ?_
  refine a_callI3 (pc := 25) ck_X7_134 ⟨(Nat.le_of_ble_eq_true rfl), (Nat.le_of_ble_eq_true rfl)⟩ (by assumption) (by decide) (Nat.le_of_ble_eq_true rfl) dX7_waits_25 rfl (c_X7_drawn hr) ?_
  rintro r_ u ⟨rfl, rfl⟩
  refine a_aload_n (pc := 28) dX7_waits_28 rfl rfl ?_
  refine a_getr (pc := 29) fl_X7_13 (by assumption) (by decide) (by rfl) dX7_waits_29 ?_
  refine a_iload_n (pc := 32) dX7_waits_32 rfl rfl ?_
  refine a_iconst (pc := 33) (v := 0) dX7_waits_33 (by decide) ?_
  refine a_iaddN (pc := 34) (a := _) (b := 0) rfl rfl dX7_waits_34 ?_
  refine a_iald (pc := 35)  (by assumption) rfl (by omega) (by decide) dX7_waits_35 ?_
  refine a_irem (pc := 36) dX7_waits_36 hw ?_
  refine a_iast (pc := 37)  (by assumption) rfl (by omega) (by decide) dX7_waits_37 ?_
  refine a_aload_n (pc := 38) dX7_waits_38 rfl rfl ?_
  refine a_getr (pc := 39) fl_X7_13 (by assumption) (by decide) (by rfl) dX7_waits_39 ?_
  refine a_iload_n (pc := 42) dX7_waits_42 rfl rfl ?_
  refine a_bipush (pc := 43) (v := 7) dX7_waits_43 (by decide) ?_
  refine a_iaddN (pc := 45) (a := _) (b := 7) rfl rfl dX7_waits_45 ?_
  refine a_dup2 (pc := 46) dX7_waits_46 rfl rfl ?_
  refine a_iald (pc := 47)  (by assumption) rfl (by omega) (by decide) dX7_waits_47 ?_
  refine a_iconst (pc := 48) (v := 1) dX7_waits_48 (by decide) ?_
  refine a_iadd (pc := 49) dX7_waits_49 ?_
  refine a_iast (pc := 50)  (by assumption) rfl (by omega) (by decide) dX7_waits_50 ?_
  refine a_vret (pc := 51) rfl dX7_waits_51 ?_
  simp [wtsF, remF, up2_eq, upA_upA, upA_ap, up2_upA, upd_ap]

def cmsF (f : Nat → Int32) (b i : Nat) : Nat → Int32 := if f (b + 70 * i + 8) ≤ 0 then upd (upd (upd f (b + 70 * i + 28) 0) (b + 70 * i + 29) 0) (b + 70 * i + 26) 0 else wtsF (upd (upd (upd f (b + 70 * i + 28) 0) (b + 70 * i + 29) 0) (b + 70 * i + 26) 0) b i
set_option maxHeartbeats 4000000 in
set_option maxRecDepth 100000 in
theorem c_X7_comes {ν : Mem} {r i : Nat} (hr : r < 3) (hi : i < 6) (hw : ¬ ν 2 (440 * r + 70 * i) = 0) : Con shM mX7_comes [.ref 0, .int (nI r), .int (nI i)] ν (fun _ u => u = upA ν 2 (cmsF (ν 2) (440 * r) i)) := by
  have m0 : shM[0]? = some (7, 18, [none, some 1, none, none, none, none, none, some 2, some 3, none, none, some 4, none, none, some 5, some 6, some 7, some 8]) := rfl
  have m1 : shM[1]? = some (100, 200, []) := rfl
  have m2 : shM[2]? = some (100, 1320, []) := rfl
  have m3 : shM[3]? = some (100, 1760, []) := rfl
  have m4 : shM[4]? = some (100, 4, []) := rfl
  have m5 : shM[5]? = some (100, 6, []) := rfl
  have m6 : shM[6]? = some (100, 6, []) := rfl
  have m7 : shM[7]? = some (100, 6, []) := rfl
  have m8 : shM[8]? = some (100, 6, []) := rfl
  refine Con.ofAW (al0 := [some (.ref 0), some (.int (nI r)), some (.int (nI i)), none]) (by decide) rfl (Nat.le_of_ble_eq_true rfl) rfl ?_
  refine a_iload_n (pc := 0) dX7_comes_0 rfl rfl ?_
  refine a_iload_n (pc := 1) dX7_comes_1 rfl rfl ?_
  refine a_callS2 (pc := 2) cs_X7_52 ⟨(Nat.le_of_ble_eq_true rfl), (Nat.le_of_ble_eq_true rfl)⟩ (Nat.le_of_ble_eq_true rfl) dX7_comes_2 rfl c_X7_at ?_
  rintro r_ u ⟨rfl, rfl⟩
  refine a_istore_n (pc := 5) (al' := [some (.ref _), some (.int _), some (.int _), some (.int _)]) dX7_comes_5 rfl (by decide) rfl rfl ?_
  refine a_aload_n (pc := 6) dX7_comes_6 rfl rfl ?_
  refine a_getr (pc := 7) fl_X7_13 (by assumption) (by decide) (by rfl) dX7_comes_7 ?_
  refine a_iload_n (pc := 10) dX7_comes_10 rfl rfl ?_
  refine a_bipush (pc := 11) (v := 28) dX7_comes_11 (by decide) ?_
  refine a_iaddN (pc := 13) (a := _) (b := 28) rfl rfl dX7_comes_13 ?_
  refine a_iconst (pc := 14) (v := 0) dX7_comes_14 (by decide) ?_
  refine a_iast (pc := 15)  (by assumption) rfl (by omega) (by decide) dX7_comes_15 ?_
  refine a_aload_n (pc := 16) dX7_comes_16 rfl rfl ?_
  refine a_getr (pc := 17) fl_X7_13 (by assumption) (by decide) (by rfl) dX7_comes_17 ?_
  refine a_iload_n (pc := 20) dX7_comes_20 rfl rfl ?_
  refine a_bipush (pc := 21) (v := 29) dX7_comes_21 (by decide) ?_
  refine a_iaddN (pc := 23) (a := _) (b := 29) rfl rfl dX7_comes_23 ?_
  refine a_iconst (pc := 24) (v := 0) dX7_comes_24 (by decide) ?_
  refine a_iast (pc := 25)  (by assumption) rfl (by omega) (by decide) dX7_comes_25 ?_
  refine a_aload_n (pc := 26) dX7_comes_26 rfl rfl ?_
  refine a_getr (pc := 27) fl_X7_13 (by assumption) (by decide) (by rfl) dX7_comes_27 ?_
  refine a_iload_n (pc := 30) dX7_comes_30 rfl rfl ?_
  refine a_bipush (pc := 31) (v := 26) dX7_comes_31 (by decide) ?_
  refine a_iaddN (pc := 33) (a := _) (b := 26) rfl rfl dX7_comes_33 ?_
  refine a_iconst (pc := 34) (v := 0) dX7_comes_34 (by decide) ?_
  refine a_iast (pc := 35)  (by assumption) rfl (by omega) (by decide) dX7_comes_35 ?_
  refine a_aload_n (pc := 36) dX7_comes_36 rfl rfl ?_
  refine a_getr (pc := 37) fl_X7_13 (by assumption) (by decide) (by rfl) dX7_comes_37 ?_
  refine a_iload_n (pc := 40) dX7_comes_40 rfl rfl ?_
  refine a_bipush (pc := 41) (v := 8) dX7_comes_41 (by decide) ?_
  refine a_iaddN (pc := 43) (a := _) (b := 8) rfl rfl dX7_comes_43 ?_
  refine a_iald (pc := 44)  (by assumption) rfl (by omega) (by decide) dX7_comes_44 ?_
  refine a_if_le (pc := 45) (tgt := 54) dX7_comes_45 (by decide) (fun c_45 => ?_) (fun c_45 => ?_)
  · refine a_vret (pc := 54) rfl dX7_comes_54 ?_
    simp [up2_eq, upA_upA, upA_ap, up2_upA, upd_ap, -Int32.not_lt, -Int32.not_le, -Nat.not_lt] at c_45
    simp [cmsF, up2_eq, upA_upA, upA_ap, up2_upA, upd_ap, c_45, -Int32.not_lt, -Int32.not_le, -Nat.not_lt]
  · refine a_aload_n (pc := 48) dX7_comes_48 rfl rfl ?_
    refine a_iload_n (pc := 49) dX7_comes_49 rfl rfl ?_
    refine a_iload_n (pc := 50) dX7_comes_50 rfl rfl ?_
    refine a_callV2 (pc := 51) ck_X7_138 ⟨(Nat.le_of_ble_eq_true rfl), (Nat.le_of_ble_eq_true rfl)⟩ (by assumption) (by decide) (Nat.le_of_ble_eq_true rfl) dX7_comes_51 rfl (c_X7_waits hr hi (by simp [up2_eq, upA_upA, upA_ap, up2_upA, upd_ap]; exact hw)) ?_
    rintro u rfl
    refine a_vret (pc := 54) rfl dX7_comes_54 ?_
    simp [up2_eq, upA_upA, upA_ap, up2_upA, upd_ap, -Int32.not_lt, -Int32.not_le, -Nat.not_lt] at c_45
    simp [cmsF, up2_eq, upA_upA, upA_ap, up2_upA, upd_ap, c_45, -Int32.not_lt, -Int32.not_le, -Nat.not_lt]

def shfF (f : Nat → Int32) (a n : Nat) : Nat → Int32 := fun j => if a ≤ j ∧ j < a + 2 * n then f (j + 2) else f j
def ovsF (f : Nat → Int32) (b i n : Nat) (L : Int32) : Nat → Int32 := cmsF (upd (upd (shfF (upd f (b + 70 * i + 8) (nI n)) (b + 70 * i + 9) n) (b + 70 * i + 1) 0) (b + 70 * i) L) b i
set_option maxHeartbeats 4000000 in
set_option maxRecDepth 100000 in
theorem l_X7_overs {ν0 : Mem} {r i n : Nat} (hr : r < 3) (hi : i < 6) (hn : n < 6) (hc : ν0 2 (440 * r + 70 * i + 8) = nI n) {Q : Int32 → Mem → Prop} (hQ : AW shM mX7_overs 70 [some (.ref 0), some (.int (nI r)), some (.int (nI i)), some (.int (nI (440 * r + 70 * i))), some (.int (nI (2 * n)))] [] (upA ν0 2 (shfF (ν0 2) (440 * r + 70 * i + 9) n)) Q) : ∀ d k : Nat, k + d = 2 * n → ∀ ν : Mem, ν = upA ν0 2 (fun j => if 440 * r + 70 * i + 9 ≤ j ∧ j < 440 * r + 70 * i + 9 + k then ν0 2 (j + 2) else ν0 2 j) → AW shM mX7_overs 22 [some (.ref 0), some (.int (nI r)), some (.int (nI i)), some (.int (nI (440 * r + 70 * i))), some (.int (nI k))] [] ν Q := by
  have m0 : shM[0]? = some (7, 18, [none, some 1, none, none, none, none, none, some 2, some 3, none, none, some 4, none, none, some 5, some 6, some 7, some 8]) := rfl
  have m1 : shM[1]? = some (100, 200, []) := rfl
  have m2 : shM[2]? = some (100, 1320, []) := rfl
  have m3 : shM[3]? = some (100, 1760, []) := rfl
  have m4 : shM[4]? = some (100, 4, []) := rfl
  have m5 : shM[5]? = some (100, 6, []) := rfl
  have m6 : shM[6]? = some (100, 6, []) := rfl
  have m7 : shM[7]? = some (100, 6, []) := rfl
  have m8 : shM[8]? = some (100, 6, []) := rfl
  intro d
  induction d with
  | zero =>
    intro k hk ν hν
    refine a_iload (pc := 22) dX7_overs_22 rfl ?_
    refine a_iconst (pc := 24) (v := 2) dX7_overs_24 (by decide) ?_
    refine a_aload_n (pc := 25) dX7_overs_25 rfl rfl ?_
    refine a_getr (pc := 26) fl_X7_13 (by assumption) (by decide) (by rfl) dX7_overs_26 ?_
    refine a_iload_n (pc := 29) dX7_overs_29 rfl rfl ?_
    refine a_bipush (pc := 30) (v := 8) dX7_overs_30 (by decide) ?_
    refine a_iaddN (pc := 32) (a := _) (b := 8) rfl rfl dX7_overs_32 ?_
    refine a_iald (pc := 33)  (by assumption) rfl (by omega) (by decide) dX7_overs_33 ?_
    refine a_top (y := nI n) (show ν 2 (440 * r + 70 * i + 8) = nI n by rw [hν, upA_at]; exact (if_neg (by omega)).trans hc) ?_
    refine a_imulN (pc := 34) (a := 2) (b := _) rfl rfl dX7_overs_34 ?_
    refine a_icmp_ge (pc := 35) (tgt := 70) dX7_overs_35 (by decide) (fun c_35 => ?_) (fun c_35 => ?_)
    · refine AW.cast hQ rfl (by rw [show k = 2 * n by omega]) rfl ?_
      rw [hν, show k = 2 * n by omega]; rfl
    · refine a_aload_n (pc := 38) dX7_overs_38 rfl rfl ?_
      refine a_getr (pc := 39) fl_X7_13 (by assumption) (by decide) (by rfl) dX7_overs_39 ?_
      refine a_iload_n (pc := 42) dX7_overs_42 rfl rfl ?_
      refine a_bipush (pc := 43) (v := 9) dX7_overs_43 (by decide) ?_
      refine a_iaddN (pc := 45) (a := _) (b := 9) rfl rfl dX7_overs_45 ?_
      refine a_iload (pc := 46) dX7_overs_46 rfl ?_
      refine a_iaddN (pc := 48) (a := _) (b := _) rfl rfl dX7_overs_48 ?_
      refine a_aload_n (pc := 49) dX7_overs_49 rfl rfl ?_
      refine a_getr (pc := 50) fl_X7_13 (by assumption) (by decide) (by rfl) dX7_overs_50 ?_
      refine a_iload_n (pc := 53) dX7_overs_53 rfl rfl ?_
      refine a_bipush (pc := 54) (v := 9) dX7_overs_54 (by decide) ?_
      refine a_iaddN (pc := 56) (a := _) (b := 9) rfl rfl dX7_overs_56 ?_
      refine a_iload (pc := 57) dX7_overs_57 rfl ?_
      refine a_iaddN (pc := 59) (a := _) (b := _) rfl rfl dX7_overs_59 ?_
      refine a_iconst (pc := 60) (v := 2) dX7_overs_60 (by decide) ?_
      refine a_iaddN (pc := 61) (a := _) (b := 2) rfl rfl dX7_overs_61 ?_
      refine a_iald (pc := 62)  (by assumption) rfl (by omega) (by decide) dX7_overs_62 ?_
      refine a_iast (pc := 63)  (by assumption) rfl (by omega) (by decide) dX7_overs_63 ?_
      refine a_iincN (pc := 64) (m := 1) (al' := [some (.ref _), some (.int _), some (.int _), some (.int _), some (.int _)]) dX7_overs_64 rfl (by decide) rfl rfl ?_
      refine a_goto (pc := 67) (tgt := 22) dX7_overs_67 (by decide) ?_
      exact absurd c_35 (fun h => h (nI_le (a := 2 * n) (b := k) (by omega) (by omega)))
  | succ d ih =>
    intro k hk ν hν
    refine a_iload (pc := 22) dX7_overs_22 rfl ?_
    refine a_iconst (pc := 24) (v := 2) dX7_overs_24 (by decide) ?_
    refine a_aload_n (pc := 25) dX7_overs_25 rfl rfl ?_
    refine a_getr (pc := 26) fl_X7_13 (by assumption) (by decide) (by rfl) dX7_overs_26 ?_
    refine a_iload_n (pc := 29) dX7_overs_29 rfl rfl ?_
    refine a_bipush (pc := 30) (v := 8) dX7_overs_30 (by decide) ?_
    refine a_iaddN (pc := 32) (a := _) (b := 8) rfl rfl dX7_overs_32 ?_
    refine a_iald (pc := 33)  (by assumption) rfl (by omega) (by decide) dX7_overs_33 ?_
    refine a_top (y := nI n) (show ν 2 (440 * r + 70 * i + 8) = nI n by rw [hν, upA_at]; exact (if_neg (by omega)).trans hc) ?_
    refine a_imulN (pc := 34) (a := 2) (b := _) rfl rfl dX7_overs_34 ?_
    refine a_icmp_ge (pc := 35) (tgt := 70) dX7_overs_35 (by decide) (fun c_35 => ?_) (fun c_35 => ?_)
    · exact absurd c_35 (nI_ge (a := k) (b := 2 * n) (by omega) (by omega))
    · refine a_aload_n (pc := 38) dX7_overs_38 rfl rfl ?_
      refine a_getr (pc := 39) fl_X7_13 (by assumption) (by decide) (by rfl) dX7_overs_39 ?_
      refine a_iload_n (pc := 42) dX7_overs_42 rfl rfl ?_
      refine a_bipush (pc := 43) (v := 9) dX7_overs_43 (by decide) ?_
      refine a_iaddN (pc := 45) (a := _) (b := 9) rfl rfl dX7_overs_45 ?_
      refine a_iload (pc := 46) dX7_overs_46 rfl ?_
      refine a_iaddN (pc := 48) (a := _) (b := _) rfl rfl dX7_overs_48 ?_
      refine a_aload_n (pc := 49) dX7_overs_49 rfl rfl ?_
      refine a_getr (pc := 50) fl_X7_13 (by assumption) (by decide) (by rfl) dX7_overs_50 ?_
      refine a_iload_n (pc := 53) dX7_overs_53 rfl rfl ?_
      refine a_bipush (pc := 54) (v := 9) dX7_overs_54 (by decide) ?_
      refine a_iaddN (pc := 56) (a := _) (b := 9) rfl rfl dX7_overs_56 ?_
      refine a_iload (pc := 57) dX7_overs_57 rfl ?_
      refine a_iaddN (pc := 59) (a := _) (b := _) rfl rfl dX7_overs_59 ?_
      refine a_iconst (pc := 60) (v := 2) dX7_overs_60 (by decide) ?_
      refine a_iaddN (pc := 61) (a := _) (b := 2) rfl rfl dX7_overs_61 ?_
      refine a_iald (pc := 62)  (by assumption) rfl (by omega) (by decide) dX7_overs_62 ?_
      refine a_iast (pc := 63)  (by assumption) rfl (by omega) (by decide) dX7_overs_63 ?_
      refine a_iincN (pc := 64) (m := 1) (al' := [some (.ref _), some (.int _), some (.int _), some (.int _), some (.int _)]) dX7_overs_64 rfl (by decide) rfl rfl ?_
      refine a_goto (pc := 67) (tgt := 22) dX7_overs_67 (by decide) ?_
      refine ih (k + 1) (by omega) _ ?_
      rw [hν, up2_upA]
      congr 1
      funext j
      simp only [upd_ap, upA_at]
      rw [if_neg (show ¬ (440 * r + 70 * i + 9 ≤ 440 * r + 70 * i + 9 + k + 2 ∧ 440 * r + 70 * i + 9 + k + 2 < 440 * r + 70 * i + 9 + k) by omega)]
      by_cases e1 : j = 440 * r + 70 * i + 9 + k
      · rw [if_pos e1, if_pos (by omega), e1]
      · rw [if_neg e1]
        by_cases e2 : 440 * r + 70 * i + 9 ≤ j ∧ j < 440 * r + 70 * i + 9 + k
        · rw [if_pos e2, if_pos (by omega)]
        · rw [if_neg e2, if_neg (by omega)]
set_option maxHeartbeats 4000000 in
set_option maxRecDepth 100000 in
theorem c_X7_overs {ν : Mem} {r i n : Nat} (hr : r < 3) (hi : i < 6) (hn : n < 6) (hc : ν 2 (440 * r + 70 * i + 8) = nI (n + 1)) (hL : ¬ ν 0 3 = 0) : Con shM mX7_overs [.ref 0, .int (nI r), .int (nI i)] ν (fun _ u => u = upA ν 2 (ovsF (ν 2) (440 * r) i n (ν 0 3))) := by
  have m0 : shM[0]? = some (7, 18, [none, some 1, none, none, none, none, none, some 2, some 3, none, none, some 4, none, none, some 5, some 6, some 7, some 8]) := rfl
  have m1 : shM[1]? = some (100, 200, []) := rfl
  have m2 : shM[2]? = some (100, 1320, []) := rfl
  have m3 : shM[3]? = some (100, 1760, []) := rfl
  have m4 : shM[4]? = some (100, 4, []) := rfl
  have m5 : shM[5]? = some (100, 6, []) := rfl
  have m6 : shM[6]? = some (100, 6, []) := rfl
  have m7 : shM[7]? = some (100, 6, []) := rfl
  have m8 : shM[8]? = some (100, 6, []) := rfl
  refine Con.ofAW (al0 := [some (.ref 0), some (.int (nI r)), some (.int (nI i)), none, none]) (by decide) rfl (Nat.le_of_ble_eq_true rfl) rfl ?_
  refine a_iload_n (pc := 0) dX7_overs_0 rfl rfl ?_
  refine a_iload_n (pc := 1) dX7_overs_1 rfl rfl ?_
  refine a_callS2 (pc := 2) cs_X7_52 ⟨(Nat.le_of_ble_eq_true rfl), (Nat.le_of_ble_eq_true rfl)⟩ (Nat.le_of_ble_eq_true rfl) dX7_overs_2 rfl c_X7_at ?_
  rintro r_ u ⟨rfl, rfl⟩
  refine a_istore_n (pc := 5) (al' := [some (.ref _), some (.int _), some (.int _), some (.int _), none]) dX7_overs_5 rfl (by decide) rfl rfl ?_
  refine a_aload_n (pc := 6) dX7_overs_6 rfl rfl ?_
  refine a_getr (pc := 7) fl_X7_13 (by assumption) (by decide) (by rfl) dX7_overs_7 ?_
  refine a_iload_n (pc := 10) dX7_overs_10 rfl rfl ?_
  refine a_bipush (pc := 11) (v := 8) dX7_overs_11 (by decide) ?_
  refine a_iaddN (pc := 13) (a := _) (b := 8) rfl rfl dX7_overs_13 ?_
  refine a_dup2 (pc := 14) dX7_overs_14 rfl rfl ?_
  refine a_iald (pc := 15)  (by assumption) rfl (by omega) (by decide) dX7_overs_15 ?_
  refine a_top (y := nI (n + 1)) hc ?_
  refine a_iconst (pc := 16) (v := 1) dX7_overs_16 (by decide) ?_
  refine a_isubN (pc := 17) (a := _) (b := 1) rfl rfl (Nat.le_add_left 1 n) dX7_overs_17 ?_
  refine a_iast (pc := 18)  (by assumption) rfl (by omega) (by decide) dX7_overs_18 ?_
  refine a_iconst (pc := 19) (v := 0) dX7_overs_19 (by decide) ?_
  refine a_istore (pc := 20) (al' := [some (.ref _), some (.int _), some (.int _), some (.int _), some (.int _)]) dX7_overs_20 (by decide) rfl rfl ?_
  refine l_X7_overs (ν0 := up2 ν 2 (440 * r + 70 * i + 8) (nI n)) (n := n) hr hi hn (by simp [up2_ap]) ?_ (2 * n) 0 (by omega) _ ?_
  · refine a_aload_n (pc := 70) dX7_overs_70 rfl rfl ?_
    refine a_getr (pc := 71) fl_X7_13 (by assumption) (by decide) (by rfl) dX7_overs_71 ?_
    refine a_iload_n (pc := 74) dX7_overs_74 rfl rfl ?_
    refine a_iconst (pc := 75) (v := 1) dX7_overs_75 (by decide) ?_
    refine a_iaddN (pc := 76) (a := _) (b := 1) rfl rfl dX7_overs_76 ?_
    refine a_iconst (pc := 77) (v := 0) dX7_overs_77 (by decide) ?_
    refine a_iast (pc := 78)  (by assumption) rfl (by omega) (by decide) dX7_overs_78 ?_
    refine a_aload_n (pc := 79) dX7_overs_79 rfl rfl ?_
    refine a_getr (pc := 80) fl_X7_13 (by assumption) (by decide) (by rfl) dX7_overs_80 ?_
    refine a_iload_n (pc := 83) dX7_overs_83 rfl rfl ?_
    refine a_iconst (pc := 84) (v := 0) dX7_overs_84 (by decide) ?_
    refine a_iaddN (pc := 85) (a := _) (b := 0) rfl rfl dX7_overs_85 ?_
    refine a_aload_n (pc := 86) dX7_overs_86 rfl rfl ?_
    refine a_geti (pc := 87) fl_X7_59 (by assumption) (by decide) (by rfl) dX7_overs_87 ?_
    refine a_iast (pc := 90)  (by assumption) rfl (by omega) (by decide) dX7_overs_90 ?_
    refine a_aload_n (pc := 91) dX7_overs_91 rfl rfl ?_
    refine a_iload_n (pc := 92) dX7_overs_92 rfl rfl ?_
    refine a_iload_n (pc := 93) dX7_overs_93 rfl rfl ?_
    refine a_callV2 (pc := 94) ck_X7_78 ⟨(Nat.le_of_ble_eq_true rfl), (Nat.le_of_ble_eq_true rfl)⟩ (by assumption) (by decide) (Nat.le_of_ble_eq_true rfl) dX7_overs_94 rfl (c_X7_comes hr hi (by simp [up2_eq, upA_upA, upA_ap, up2_upA, upd_ap]; exact hL)) ?_
    rintro u rfl
    refine a_vret (pc := 97) rfl dX7_overs_97 ?_
    simp [ovsF, up2_eq, upA_upA, upA_ap, up2_upA, upd_ap]
  · simp [up2_eq, upA_upA, upA_ap]
    congr 1; funext j; rw [if_neg (by omega)]
end
