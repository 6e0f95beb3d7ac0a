/-! THE CLAIM OUT OF ONE WALK OF THE LAW'S BODY. Your part is whole_start (and what it stands on); all else here is the same for every law, but numbers. -/
def R_law : String := "HeardSlotsLaw"
def lw_P (b : Addr) (xs : List Int32) (args : Array Value) (s : State) : Prop := args = #[.ref b] ∧ s.IntsAt b xs ∧ xs.length ≤ 2048 ∧ (Jvm.Cond.and given_1 narrow_1).before args s = true
def lw_Q (_ : Array Value) (s : State) (o : Outcome) (t : State) : Prop := o = .returned (some (.int 1)) ∧ Framed s o t [] 600000 7302250
def lw_Z (below : List Frame) (a : Array Value) (s : State) : State → Prop := fun t => ∃ o, t.status = .running ∧ Ended t below o ∧ lw_Q a s o t
/-- the law's own end, with 1 on the stack, nothing written that was there before, its room as the claim has it -/
theorem lw_ret {p : Program} {l : Launch} {e : Env} {s : State} {m : MethodId} {below : List Frame} {meth : Method} {c : Code} {b : Nat} (hx : p.tables.exec = Jvm.exec) (hb : c.code = code) (hr : meth.sig.returnType = ret) (hlocks : meth.locks = false) {pc : Nat} {H : Heap} {ls : Array Slot} (hdg : decode code pc = .ok (.ireturn, 1)) : W p l e room_1 s m #[Value.ref b] below meth c H [] 600000 7302250 (lw_Z below #[Value.ref b] s) (F0 m pc ls [.int 1]) := by
  intro T hT X
  obtain ⟨fs, hret, hrun, hended, hW, hframe⟩ := X.leave (v := some (.int 1)) (hlocks := hlocks) (fun h => by rw [hr] at h; cases h)
  have hmeth' : T.vm.method? m = some meth := X.method'
  refine ⟨T.setFrames fs, ?_, .returned (some (.int 1)), hrun, hended, rfl, ⟨_, rfl⟩, hW, hframe⟩
  jvm_step X.here [X.here.top, hx, hb, hdg, hmeth', hr, ret, narrow_b1]
  (try refine ⟨rfl, ?_⟩); (try refine ⟨rfl, ?_⟩)
  first | (intro acts; rw [hret _ acts rfl rfl rfl]) | rw [hret _ _ rfl rfl rfl]
  exact Steps.refl _
/-- what holds at the law's entry: the machine, the code, the tables' words (any of lw_tbl by 'hts w (by decide +kernel)'), the script of L ints xs at the cell b, what the Statement gives of the start (any of its parts by flat_of_before) -/
def lw_At (p : Program) (s : State) (m : MethodId) (meth : Method) (c : Code) (b L : Nat) (xs : Nat → Int32) : Prop :=
  p.tables.exec = Jvm.exec ∧ c.code = code ∧ meth.sig.returnType = ret ∧ c.maxLocals = 4 ∧ s.vm.findClass R_law = some m.cls ∧ (∀ w ∈ lw_tbl, w.before #[Value.ref b] s = true) ∧ va_X b L xs s s.heap ∧ b < s.heap.size ∧ meth.locks = false ∧ (Jvm.Cond.and given_1 narrow_1).before #[Value.ref b] s = true
/-! rows of the law -/
abbrev mL : Mt := (yL_law, code, 4, ret, 9, 223)
theorem GR.mono {μ ν : Mem} {D D' : Nat} (h : D ≤ D') (hG : GR μ ν D) : GR μ ν D' := hG.net h (fun _ _ => rfl) (fun _ _ _ => rfl) (fun N t q ht hb => ⟨t, q.eq (fun _ _ _ => rfl) (fun _ _ _ => rfl) (fun _ _ => rfl) h, ht, hb⟩)
section LAW
variable {R : Room} {mt : Mt} {l : Launch} {cA : Nat → ClassId} {D : va_G} {A : Nat → Prop} {p : Program} {e : Env} {s : State} {m : MethodId} {args : Array Value} {below : List Frame} {meth : Method} {c : Code} {Q : State → Prop}
variable {k n pc : Nat} {al : List (Option Value)} {st : List Value} {ws : va_W}
theorem b_slen {b L : Nat} {xs : Nat → Int32} (X : Bx mt cA D A p s m meth c) (hX : va_X b L xs s s.heap) (hbl : b < s.heap.size) (hbA : ¬ A b) (d : decode mt.2.1 pc = .ok (.arraylength, 1)) (kk : BW R mt l D A p e s m args below meth c Q k n (pc + 1) al (.int (nI L) :: st) ws) : BW R mt l D A p e s m args below meth c Q k n pc al (.ref b :: st) ws :=
  fun H locs ls P E S V => va_slen X.1.1 X.1.2.1 hX hbl hbA S d (kk H locs ls P E S V)
theorem b_sld {b L j : Nat} {xs : Nat → Int32} (X : Bx mt cA D A p s m meth c) (hX : va_X b L xs s s.heap) (hbl : b < s.heap.size) (hbA : ¬ A b) (hj : j < L) (hL : L < 2 ^ 31) (d : decode mt.2.1 pc = .ok (.iaload, 1)) (kk : BW R mt l D A p e s m args below meth c Q k n (pc + 1) al (.int (xs j) :: st) ws) : BW R mt l D A p e s m args below meth c Q k n pc al (.int (nI j) :: .ref b :: st) ws := by
  intro H locs ls P E S V
  refine va_sld X.1.1 X.1.2.1 hX hbl hbA S (vp_in_nI hj hL) d ?_
  rw [nI_clamp (Nat.lt_trans hj hL)]
  exact kk H locs ls P E S V
theorem b_iaddN {a b : Nat} {y : Int32} (hy : y = nI b) (X : Bx mt cA D A p s m meth c) (d : decode mt.2.1 pc = .ok (.iadd, 1)) (kk : BW R mt l D A p e s m args below meth c Q k n (pc + 1) al (.int (nI (a + b)) :: st) ws) : BW R mt l D A p e s m args below meth c Q k n pc al (.int y :: .int (nI a) :: st) ws :=
  b_iadd X d (by rw [hy, nI_add]; exact kk)
theorem b_tableIn {dflt lo hi : Int} {offs : Array Int} {len : Nat} {x : Int32} {off : Int} {tgt : Nat} (X : Bx mt cA D A p s m meth c) (d : decode mt.2.1 pc = .ok (.tableswitch dflt lo hi offs, len)) (h1 : ¬ x.toInt < lo) (h2 : ¬ hi < x.toInt) (ho : offs[(x.toInt - lo).toNat]? = some off) (ht : (pc : Int) + off = (tgt : Int)) (kk : BW R mt l D A p e s m args below meth c Q k n tgt al st ws) : BW R mt l D A p e s m args below meth c Q k n pc al (.int x :: st) ws :=
  fun H locs ls P E S V => lv_tableIn X.1.1 X.1.2.1 d h1 h2 ho ht (kk H locs ls P E S V)
theorem b_tableOut {dflt lo hi : Int} {offs : Array Int} {len : Nat} {x : Int32} {tgt : Nat} (X : Bx mt cA D A p s m meth c) (d : decode mt.2.1 pc = .ok (.tableswitch dflt lo hi offs, len)) (h : x.toInt < lo ∨ hi < x.toInt) (ht : (pc : Int) + dflt = (tgt : Int)) (kk : BW R mt l D A p e s m args below meth c Q k n tgt al st ws) : BW R mt l D A p e s m args below meth c Q k n pc al (.int x :: st) ws :=
  fun H locs ls P E S V => lv_tableOut X.1.1 X.1.2.1 d h ht (kk H locs ls P E S V)
theorem b_lret {b : Nat} (X : Bx mL cA D (fun q => s.heap.size ≤ q) p s m meth c) (hk : k ≤ 600000) (hn : n ≤ 7302250) (d : decode code pc = .ok (.ireturn, 1)) : BW room_1 mL l D (fun q => s.heap.size ≤ q) p e s m #[Value.ref b] below meth c (lw_Z below #[Value.ref b] s) k n pc al [.int 1] ws := by
  intro H locs ls P E S V
  refine va_forget (fun q hq => S.2.2 q hq) ?_
  exact W.widen (k := 600000) (n := 7302250) hk hn (lw_ret X.1.1 X.1.2.1 X.1.2.2.2.1 X.1.2.2.2.2.1 d)
theorem sub4 {L i : Nat} (hL : L ≤ 2048) (hi : i ≤ 4096) : nI L - 4 < nI i ↔ L < i + 4 := by
  rcases Nat.lt_or_ge L 4 with h | h
  · refine ⟨fun _ => by omega, fun _ => ?_⟩
    have hneg : nI L - 4 < 0 := by
      rcases (show L = 0 ∨ L = 1 ∨ L = 2 ∨ L = 3 by omega) with rfl | rfl | rfl | rfl <;> decide
    exact Int32.lt_of_lt_of_le hneg (nI_le (a := 0) (by omega) (by omega))
  · rw [show (4 : Int32) = nI 4 from rfl, pk_sub h, nI_ltI (by omega) (by omega)]; omega
theorem and31 (x : Int32) : ∃ t, t < 32 ∧ x &&& 31 = nI t := by
  obtain ⟨j, hj, e⟩ := pk_andE x (m := 31) 5 (by decide)
  exact ⟨j, by omega, e⟩
end LAW
