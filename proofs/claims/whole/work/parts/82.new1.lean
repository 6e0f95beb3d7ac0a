/-! the class's constructors: Signal, LetterRow, Memory, Station -/
def mz : Mem := fun _ _ => 0
def sigS : Shp := [(4, 4, [none, none, none, none])]
def rowS : Shp := [(0, 3, [none, some 1, some 2]), (100, 6, []), (100, 6, [])]
def memS : Shp := [(1, 2, [none, some 1]), (100, 24, [])]
def fldsF (σ : Nat → Nat) (f : Nat → Int32) : Nat → List (Option Nat) → List Value
  | _, [] => []
  | n, r :: rs => sfv σ f n r :: fldsF σ f (n + 1) rs
theorem mapIdx_flds {σ : Nat → Nat} {f : Nat → Int32} : ∀ (rs : List (Option Nat)) (n : Nat), rs.mapIdx (fun i r => sfv σ f (n + i) r) = fldsF σ f n rs
  | [], _ => rfl
  | r :: rs, n => by
    rw [List.mapIdx_cons]
    show sfv σ f n r :: _ = sfv σ f n r :: fldsF σ f (n + 1) rs
    rw [← mapIdx_flds rs (n + 1)]
    congr 1
    congr 1
    funext i
    rw [show n + (i + 1) = n + 1 + i by omega]
theorem mapIdx_f0 {σ : Nat → Nat} {f : Nat → Int32} {rs : List (Option Nat)} : rs.mapIdx (sfv σ f) = fldsF σ f 0 rs := by
  rw [← mapIdx_flds]
  congr 1
  funext i r
  rw [Nat.zero_add]
def celR (σ : Nat → Nat) (cA : Nat → ClassId) (f : Nat → Int32) (x : Nat × Nat × List (Option Nat)) : va_E :=
  if x.1 < 100 then .inr (x.1, fldsF σ f 0 x.2.2) else if x.1 < 102 then .inl (cA (x.1 - 100), x.2.1, .inl f) else .inl (cA (x.1 - 100), x.2.1, .inr (.inr (.inr (.inr (fun j => (x.2.2.getD j none).map σ)))))
theorem cel_R {σ : Nat → Nat} {cA : Nat → ClassId} {f : Nat → Int32} {x : Nat × Nat × List (Option Nat)} : cel σ cA f x = celR σ cA f x := by
  unfold cel celR; rw [mapIdx_f0]
def wofR (σ : Nat → Nat) (cA : Nat → ClassId) (μ : Mem) : Nat → Shp → va_W
  | _, [] => []
  | n, x :: sh => (σ n, celR σ cA (μ n) x) :: wofR σ cA μ (n + 1) sh
def wof (n : Nat) (sh : Shp) (σ : Nat → Nat) (cA : Nat → ClassId) (μ : Mem) : va_W := sh.mapIdx (fun o x => (σ (n + o), cel σ cA (μ (n + o)) x))
theorem wof_R {σ : Nat → Nat} {cA : Nat → ClassId} {μ : Mem} : ∀ (sh : Shp) (n : Nat), wof n sh σ cA μ = wofR σ cA μ n sh
  | [], _ => rfl
  | x :: sh, n => by
    unfold wof
    rw [List.mapIdx_cons]
    show (σ (n + 0), cel σ cA (μ (n + 0)) x) :: _ = (σ n, celR σ cA (μ n) x) :: wofR σ cA μ (n + 1) sh
    rw [← wof_R sh (n + 1), Nat.add_zero, cel_R]
    congr 1
    unfold wof
    congr 1
    funext i y
    rw [show n + (i + 1) = n + 1 + i by omega]
theorem wo_R {σ : Nat → Nat} {cA : Nat → ClassId} {μ : Mem} {sh : Shp} : wo sh σ cA μ = wofR σ cA μ 0 sh := by
  rw [← wof_R]
  unfold wo wof
  congr 1
  funext o x
  rw [Nat.zero_add]
theorem wo_len {Y : va_W} {sh : Shp} {σ : Nat → Nat} {cA : Nat → ClassId} {μ : Mem} {ci n : Nat} {fs : List (Option Nat)} (h : sh[0]? = some (ci, n, fs)) (hc : ci < 100) : (Y ++ wo sh σ cA μ)[Y.length]? = some (σ 0, .inr (ci, fs.mapIdx (sfv σ (μ 0)))) := by
  rw [List.getElem?_append_right (Nat.le_refl _), Nat.sub_self, wo_at h, cel_obj hc]
abbrev exZ : (Nat → Nat) → Mem → Prop := fun _ μ => μ = mz
theorem wo_oi : Cond.instanceMethod Lib.objectInit ∈ lw_tbl := List.mem_append_right _ (List.mem_of_getElem? (i := 22) (by decide +kernel))
theorem wo_oc : Cond.code Lib.objectInit ⟨#[0xb1]⟩ 1 none ∈ lw_tbl := List.mem_append_right _ (List.mem_of_getElem? (i := 23) (by decide +kernel))
theorem ol_X4 : Cond.methodLink RX4 3 Lib.objectInit ∈ lw_tbl := List.mem_append_right _ (List.mem_of_getElem? (i := 83) (by decide +kernel))
theorem ol_X0 : Cond.methodLink RX0 3 Lib.objectInit ∈ lw_tbl := List.mem_append_right _ (List.mem_of_getElem? (i := 42) (by decide +kernel))
theorem ff_X0_9 : FF RX0 9 0 1 (.array .int) := ⟨RX0, TX0, 3, tyX0, rfl, by decide, List.mem_append_right _ (List.mem_of_getElem? (i := 48) (by decide +kernel)), hw_in0, tyX0_ok, nmX0, rfl, rfl, by decide +kernel⟩
theorem ff_X0_15 : FF RX0 15 0 2 (.array .int) := ⟨RX0, TX0, 3, tyX0, rfl, by decide, List.mem_append_right _ (List.mem_of_getElem? (i := 51) (by decide +kernel)), hw_in0, tyX0_ok, nmX0, rfl, rfl, by decide +kernel⟩
theorem ol_X1 : Cond.methodLink RX1 3 Lib.objectInit ∈ lw_tbl := List.mem_append_right _ (List.mem_of_getElem? (i := 69) (by decide +kernel))
theorem ff_X1_11 : FF RX1 11 1 1 (.array .int) := ⟨RX1, TX1, 2, tyX1, rfl, by decide, List.mem_append_right _ (List.mem_of_getElem? (i := 72) (by decide +kernel)), hw_in1, tyX1_ok, nmX1, rfl, rfl, by decide +kernel⟩
theorem ol_X5 : Cond.methodLink RX5 3 Lib.objectInit ∈ lw_tbl := List.mem_append_right _ (List.mem_of_getElem? (i := 36) (by decide +kernel))
theorem fn_X5_9 : FN RX5 9 0 3 [.int 0, .null, .null] := ⟨RX0, TX0, tyX0, rfl, List.mem_append_right _ (List.mem_of_getElem? (i := 37) (by decide +kernel)), List.mem_append_right _ (List.mem_of_getElem? (i := 38) (by decide +kernel)), List.mem_append_right _ (List.mem_of_getElem? (i := 4) (by decide +kernel)), hw_in0, tyX0_ok, fun j hj => by rcases (show j = 0 ∨ j = 1 ∨ j = 2 by omega) with rfl | rfl | rfl <;> rfl⟩
theorem ci_X5_11 : CIN mX0_init 0 := ⟨List.mem_append_right _ (List.mem_of_getElem? (i := 4) (by decide +kernel)), List.mem_append_right _ (List.mem_of_getElem? (i := 41) (by decide +kernel)), ⟨by decide +kernel, by decide +kernel⟩, by decide +kernel, List.mem_append_right _ (List.mem_of_getElem? (i := 40) (by decide +kernel)), rfl⟩
theorem ff_X5_12 : FF RX5 12 5 15 (.object "HeardSlots$LetterRow") := ⟨RX5, TX5, 19, tyX5, rfl, by decide, List.mem_append_right _ (List.mem_of_getElem? (i := 139) (by decide +kernel)), hw_in5, tyX5_ok, nmX5, rfl, rfl, by decide +kernel⟩
theorem fn_X5_18 : FN RX5 18 1 2 [.int 0, .null] := ⟨RX1, TX1, tyX1, rfl, List.mem_append_right _ (List.mem_of_getElem? (i := 64) (by decide +kernel)), List.mem_append_right _ (List.mem_of_getElem? (i := 65) (by decide +kernel)), List.mem_append_right _ (List.mem_of_getElem? (i := 5) (by decide +kernel)), hw_in1, tyX1_ok, fun j hj => by rcases (show j = 0 ∨ j = 1 by omega) with rfl | rfl <;> rfl⟩
theorem ci_X5_20 : CIN mX1_init 0 := ⟨List.mem_append_right _ (List.mem_of_getElem? (i := 5) (by decide +kernel)), List.mem_append_right _ (List.mem_of_getElem? (i := 68) (by decide +kernel)), ⟨by decide +kernel, by decide +kernel⟩, by decide +kernel, List.mem_append_right _ (List.mem_of_getElem? (i := 67) (by decide +kernel)), rfl⟩
theorem ff_X5_21 : FF RX5 21 5 16 (.object "HeardSlots$Memory") := ⟨RX5, TX5, 19, tyX5, rfl, by decide, List.mem_append_right _ (List.mem_of_getElem? (i := 143) (by decide +kernel)), hw_in5, tyX5_ok, nmX5, rfl, rfl, by decide +kernel⟩
theorem fn_X5_25 : FN RX5 25 4 4 [.int 0, .int 0, .int 0, .int 0] := ⟨RX4, TX4, tyX4, rfl, List.mem_append_right _ (List.mem_of_getElem? (i := 78) (by decide +kernel)), List.mem_append_right _ (List.mem_of_getElem? (i := 79) (by decide +kernel)), List.mem_append_right _ (List.mem_of_getElem? (i := 6) (by decide +kernel)), hw_in4, tyX4_ok, fun j hj => by rcases (show j = 0 ∨ j = 1 ∨ j = 2 ∨ j = 3 by omega) with rfl | rfl | rfl | rfl <;> rfl⟩
theorem ci_X5_27 : CIN mX4_init 0 := ⟨List.mem_append_right _ (List.mem_of_getElem? (i := 6) (by decide +kernel)), List.mem_append_right _ (List.mem_of_getElem? (i := 82) (by decide +kernel)), ⟨by decide +kernel, by decide +kernel⟩, by decide +kernel, List.mem_append_right _ (List.mem_of_getElem? (i := 81) (by decide +kernel)), rfl⟩
theorem ff_X5_28 : FF RX5 28 5 17 (.object "HeardSlots$Signal") := ⟨RX5, TX5, 19, tyX5, rfl, by decide, List.mem_append_right _ (List.mem_of_getElem? (i := 145) (by decide +kernel)), hw_in5, tyX5_ok, nmX5, rfl, rfl, by decide +kernel⟩
theorem ff_X5_32 : FF RX5 32 5 18 (.object "HeardSlots$Signal") := ⟨RX5, TX5, 19, tyX5, rfl, by decide, List.mem_append_right _ (List.mem_of_getElem? (i := 147) (by decide +kernel)), hw_in5, tyX5_ok, nmX5, rfl, rfl, by decide +kernel⟩
theorem ol_X2 : Cond.methodLink RX2 3 Lib.objectInit ∈ lw_tbl := List.mem_append_right _ (List.mem_of_getElem? (i := 29) (by decide +kernel))
theorem ff_X2_9 : FF RX2 9 2 8 (.array .int) := ⟨RX2, TX2, 10, tyX2, rfl, by decide, List.mem_append_right _ (List.mem_of_getElem? (i := 209) (by decide +kernel)), hw_in2, tyX2_ok, nmX2, rfl, rfl, by decide +kernel⟩
theorem cl_X2_15 : Cond.classLink RX2 15 "HeardSlots$Station" ∈ lw_tbl := List.mem_append_right _ (List.mem_of_getElem? (i := 30) (by decide +kernel))
theorem ff_X2_17 : FF RX2 17 2 9 (.array (.object "HeardSlots$Station")) := ⟨RX2, TX2, 10, tyX2, rfl, by decide, List.mem_append_right _ (List.mem_of_getElem? (i := 211) (by decide +kernel)), hw_in2, tyX2_ok, nmX2, rfl, rfl, by decide +kernel⟩
theorem fn_X2_15 : FN RX2 15 5 19 [.int 0, .int 0, .int 0, .int 0, .int 0, .int 0, .int 0, .int 0, .int 0, .int 0, .int 0, .int 0, .int 0, .int 0, .int 0, .null, .null, .null, .null] := ⟨RX5, TX5, tyX5, rfl, List.mem_append_right _ (List.mem_of_getElem? (i := 30) (by decide +kernel)), List.mem_append_right _ (List.mem_of_getElem? (i := 32) (by decide +kernel)), List.mem_append_right _ (List.mem_of_getElem? (i := 3) (by decide +kernel)), hw_in5, tyX5_ok, fun j hj => by rcases (show j = 0 ∨ j = 1 ∨ j = 2 ∨ j = 3 ∨ j = 4 ∨ j = 5 ∨ j = 6 ∨ j = 7 ∨ j = 8 ∨ j = 9 ∨ j = 10 ∨ j = 11 ∨ j = 12 ∨ j = 13 ∨ j = 14 ∨ j = 15 ∨ j = 16 ∨ j = 17 ∨ j = 18 by omega) with rfl | rfl | rfl | rfl | rfl | rfl | rfl | rfl | rfl | rfl | rfl | rfl | rfl | rfl | rfl | rfl | rfl | rfl | rfl <;> rfl⟩
theorem ci_X2_21 : CIN mX5_init 0 := ⟨List.mem_append_right _ (List.mem_of_getElem? (i := 3) (by decide +kernel)), List.mem_append_right _ (List.mem_of_getElem? (i := 35) (by decide +kernel)), ⟨by decide +kernel, by decide +kernel⟩, by decide +kernel, List.mem_append_right _ (List.mem_of_getElem? (i := 34) (by decide +kernel)), rfl⟩
theorem ol_X3 : Cond.methodLink RX3 3 Lib.objectInit ∈ lw_tbl := List.mem_append_right _ (List.mem_of_getElem? (i := 240) (by decide +kernel))
theorem ff_X3_11 : FF RX3 11 3 2 (.array .int) := ⟨RX3, TX3, 5, tyX3, rfl, by decide, List.mem_append_right _ (List.mem_of_getElem? (i := 243) (by decide +kernel)), hw_in3, tyX3_ok, nmX3, rfl, rfl, by decide +kernel⟩
theorem ff_X3_15 : FF RX3 15 3 0 (.array .char) := ⟨RX3, TX3, 5, tyX3, rfl, by decide, List.mem_append_right _ (List.mem_of_getElem? (i := 241) (by decide +kernel)), hw_in3, tyX3_ok, nmX3, rfl, rfl, by decide +kernel⟩
theorem ff_X3_19 : FF RX3 19 3 1 (.object "HeardSlots$Net") := ⟨RX3, TX3, 5, tyX3, rfl, by decide, List.mem_append_right _ (List.mem_of_getElem? (i := 242) (by decide +kernel)), hw_in3, tyX3_ok, nmX3, rfl, rfl, by decide +kernel⟩
theorem ol_X6 : Cond.methodLink RX6 1 Lib.objectInit ∈ lw_tbl := List.mem_append_right _ (List.mem_of_getElem? (i := 21) (by decide +kernel))
theorem ff_X6_9 : FF RX6 9 6 0 (.array .char) := ⟨RX6, TX6, 8, tyX6, rfl, by decide, List.mem_append_right _ (List.mem_of_getElem? (i := 438) (by decide +kernel)), hw_in6, tyX6_ok, nmX6, rfl, rfl, by decide +kernel⟩
theorem fn_X6_13 : FN RX6 13 2 10 [.int 0, .int 0, .int 0, .int 0, .int 0, .int 0, .int 0, .int 0, .null, .null] := ⟨RX2, TX2, tyX2, rfl, List.mem_append_right _ (List.mem_of_getElem? (i := 24) (by decide +kernel)), List.mem_append_right _ (List.mem_of_getElem? (i := 25) (by decide +kernel)), List.mem_append_right _ (List.mem_of_getElem? (i := 2) (by decide +kernel)), hw_in2, tyX2_ok, fun j hj => by rcases (show j = 0 ∨ j = 1 ∨ j = 2 ∨ j = 3 ∨ j = 4 ∨ j = 5 ∨ j = 6 ∨ j = 7 ∨ j = 8 ∨ j = 9 by omega) with rfl | rfl | rfl | rfl | rfl | rfl | rfl | rfl | rfl | rfl <;> rfl⟩
theorem ci_X6_15 : CI RX6 15 mX2_init 0 := ⟨⟨List.mem_append_right _ (List.mem_of_getElem? (i := 26) (by decide +kernel)), List.mem_append_right _ (List.mem_of_getElem? (i := 2) (by decide +kernel)), List.mem_append_right _ (List.mem_of_getElem? (i := 28) (by decide +kernel)), ⟨by decide +kernel, by decide +kernel⟩, by decide +kernel⟩, List.mem_append_right _ (List.mem_of_getElem? (i := 27) (by decide +kernel)), rfl⟩
theorem ff_X6_16 : FF RX6 16 6 2 (.object "HeardSlots$Net") := ⟨RX6, TX6, 8, tyX6, rfl, by decide, List.mem_append_right _ (List.mem_of_getElem? (i := 440) (by decide +kernel)), hw_in6, tyX6_ok, nmX6, rfl, rfl, by decide +kernel⟩
theorem ff_X6_20 : FF RX6 20 6 3 (.object "HeardSlots$Net") := ⟨RX6, TX6, 8, tyX6, rfl, by decide, List.mem_append_right _ (List.mem_of_getElem? (i := 441) (by decide +kernel)), hw_in6, tyX6_ok, nmX6, rfl, rfl, by decide +kernel⟩
theorem fn_X6_23 : FN RX6 23 3 5 [.null, .null, .null, .int 0, .int 0] := ⟨RX3, TX3, tyX3, rfl, List.mem_append_right _ (List.mem_of_getElem? (i := 235) (by decide +kernel)), List.mem_append_right _ (List.mem_of_getElem? (i := 236) (by decide +kernel)), List.mem_append_right _ (List.mem_of_getElem? (i := 7) (by decide +kernel)), hw_in3, tyX3_ok, fun j hj => by rcases (show j = 0 ∨ j = 1 ∨ j = 2 ∨ j = 3 ∨ j = 4 by omega) with rfl | rfl | rfl | rfl | rfl <;> rfl⟩
theorem ci_X6_25 : CI RX6 25 mX3_init 2 := ⟨⟨List.mem_append_right _ (List.mem_of_getElem? (i := 237) (by decide +kernel)), List.mem_append_right _ (List.mem_of_getElem? (i := 7) (by decide +kernel)), List.mem_append_right _ (List.mem_of_getElem? (i := 239) (by decide +kernel)), ⟨by decide +kernel, by decide +kernel⟩, by decide +kernel⟩, List.mem_append_right _ (List.mem_of_getElem? (i := 238) (by decide +kernel)), rfl⟩
theorem ff_X6_28 : FF RX6 28 6 4 (.object "HeardSlots$Reader") := ⟨RX6, TX6, 8, tyX6, rfl, by decide, List.mem_append_right _ (List.mem_of_getElem? (i := 442) (by decide +kernel)), hw_in6, tyX6_ok, nmX6, rfl, rfl, by decide +kernel⟩
theorem cl_X6_13 : Cond.classLink RX6 13 "HeardSlots$Net" ∈ lw_tbl := List.mem_append_right _ (List.mem_of_getElem? (i := 24) (by decide +kernel))
theorem ff_X6_32 : FF RX6 32 6 5 (.array (.object "HeardSlots$Net")) := ⟨RX6, TX6, 8, tyX6, rfl, by decide, List.mem_append_right _ (List.mem_of_getElem? (i := 443) (by decide +kernel)), hw_in6, tyX6_ok, nmX6, rfl, rfl, by decide +kernel⟩
theorem ol_X7 : Cond.methodLink RX7 1 Lib.objectInit ∈ lw_tbl := List.mem_append_right _ (List.mem_of_getElem? (i := 684) (by decide +kernel))
theorem ff_X7_7 : FF RX7 7 7 1 (.array .int) := ⟨RX7, TX7, 18, tyX7, rfl, by decide, List.mem_append_right _ (List.mem_of_getElem? (i := 725) (by decide +kernel)), hw_in7, tyX7_ok, nmX7, rfl, rfl, by decide +kernel⟩
theorem ff_X7_13 : FF RX7 13 7 7 (.array .int) := ⟨RX7, TX7, 18, tyX7, rfl, by decide, List.mem_append_right _ (List.mem_of_getElem? (i := 731) (by decide +kernel)), hw_in7, tyX7_ok, nmX7, rfl, rfl, by decide +kernel⟩
theorem ff_X7_16 : FF RX7 16 7 8 (.array .int) := ⟨RX7, TX7, 18, tyX7, rfl, by decide, List.mem_append_right _ (List.mem_of_getElem? (i := 732) (by decide +kernel)), hw_in7, tyX7_ok, nmX7, rfl, rfl, by decide +kernel⟩
theorem ff_X7_19 : FF RX7 19 7 11 (.array .int) := ⟨RX7, TX7, 18, tyX7, rfl, by decide, List.mem_append_right _ (List.mem_of_getElem? (i := 735) (by decide +kernel)), hw_in7, tyX7_ok, nmX7, rfl, rfl, by decide +kernel⟩
theorem ff_X7_22 : FF RX7 22 7 14 (.array .int) := ⟨RX7, TX7, 18, tyX7, rfl, by decide, List.mem_append_right _ (List.mem_of_getElem? (i := 738) (by decide +kernel)), hw_in7, tyX7_ok, nmX7, rfl, rfl, by decide +kernel⟩
theorem ff_X7_25 : FF RX7 25 7 15 (.array .int) := ⟨RX7, TX7, 18, tyX7, rfl, by decide, List.mem_append_right _ (List.mem_of_getElem? (i := 739) (by decide +kernel)), hw_in7, tyX7_ok, nmX7, rfl, rfl, by decide +kernel⟩
theorem ff_X7_28 : FF RX7 28 7 16 (.array .int) := ⟨RX7, TX7, 18, tyX7, rfl, by decide, List.mem_append_right _ (List.mem_of_getElem? (i := 740) (by decide +kernel)), hw_in7, tyX7_ok, nmX7, rfl, rfl, by decide +kernel⟩
theorem ff_X7_31 : FF RX7 31 7 17 (.array .int) := ⟨RX7, TX7, 18, tyX7, rfl, by decide, List.mem_append_right _ (List.mem_of_getElem? (i := 741) (by decide +kernel)), hw_in7, tyX7_ok, nmX7, rfl, rfl, by decide +kernel⟩
set_option maxHeartbeats 4000000 in
set_option maxRecDepth 100000 in
theorem c_X4_init : BCon mX4_init 0 0 4 [.int 0, .int 0, .int 0, .int 0] [] sigS exZ := by
  refine BCon.ofBW (by decide) rfl rfl (Nat.le_of_ble_eq_true rfl) ?_
  intro l cA D A p e s m args below meth c h0 X hin
  refine b_aload_n (pc := 0) X dX4_init_0 rfl rfl ?_
  refine b_objInit (pc := 1) X ol_X4 wo_oi wo_oc dX4_init_1 (Nat.le_of_ble_eq_true rfl) (Nat.le_of_ble_eq_true rfl) ?_
  exact b_ret (pc := 4) (σ := fun _ => h0) (μ := mz) X rfl rfl rfl (by simp only [wo_R]; rfl) dX4_init_4
set_option maxHeartbeats 4000000 in
set_option maxRecDepth 100000 in
theorem c_X0_init : BCon mX0_init 2 12 0 [.int 0, .null, .null] [] rowS exZ := by
  refine BCon.ofBW (by decide) rfl rfl (Nat.le_of_ble_eq_true rfl) ?_
  intro l cA D A p e s m args below meth c h0 X hin
  refine b_aload_n (pc := 0) X dX0_init_0 rfl rfl ?_
  refine b_objInit (pc := 1) X ol_X0 wo_oi wo_oc dX0_init_1 (Nat.le_of_ble_eq_true rfl) (Nat.le_of_ble_eq_true rfl) ?_
  refine b_aload_n (pc := 4) X dX0_init_4 rfl rfl ?_
  refine b_bipush (pc := 5) (v := 6) X dX0_init_5 (by decide) ?_
  refine b_newi (pc := 7) (R := rmB mX0_init 2 12) (k := 0) (n := 0) (N := 6) X (by decide) (by decide) (Nat.le_of_ble_eq_true rfl) (Nat.le_of_ble_eq_true rfl) (Nat.le_of_ble_eq_true rfl) dX0_init_7 (fun q1 => ?_)
  refine b_putF (pc := 9) (q := 0) (ws' := ([(h0, .inr (0, [.int 0, .ref q1, .null]))] ++ [(q1, .inl (cA 0, 6, .inl (fun _ => 0)))])) X hin ff_X0_9 rfl rfl rfl (Nat.le_of_ble_eq_true rfl) dX0_init_9 rfl ?_
  refine b_aload_n (pc := 12) X dX0_init_12 rfl rfl ?_
  refine b_bipush (pc := 13) (v := 6) X dX0_init_13 (by decide) ?_
  refine b_newi (pc := 15) (R := rmB mX0_init 2 12) (k := 1) (n := 6) (N := 6) X (by decide) (by decide) (Nat.le_of_ble_eq_true rfl) (Nat.le_of_ble_eq_true rfl) (Nat.le_of_ble_eq_true rfl) dX0_init_15 (fun q2 => ?_)
  refine b_putF (pc := 17) (q := 0) (ws' := (([(h0, .inr (0, [.int 0, .ref q1, .ref q2]))] ++ [(q1, .inl (cA 0, 6, .inl (fun _ => 0)))]) ++ [(q2, .inl (cA 0, 6, .inl (fun _ => 0)))])) X hin ff_X0_15 rfl rfl rfl (Nat.le_of_ble_eq_true rfl) dX0_init_17 rfl ?_
  exact b_ret (pc := 20) (σ := fun x => match x with | 0 => h0 | 1 => q1 | _ => q2) (μ := mz) X rfl rfl rfl (by simp only [wo_R]; rfl) dX0_init_20
set_option maxHeartbeats 4000000 in
set_option maxRecDepth 100000 in
theorem c_X1_init : BCon mX1_init 1 24 1 [.int 0, .null] [] memS exZ := by
  refine BCon.ofBW (by decide) rfl rfl (Nat.le_of_ble_eq_true rfl) ?_
  intro l cA D A p e s m args below meth c h0 X hin
  refine b_aload_n (pc := 0) X dX1_init_0 rfl rfl ?_
  refine b_objInit (pc := 1) X ol_X1 wo_oi wo_oc dX1_init_1 (Nat.le_of_ble_eq_true rfl) (Nat.le_of_ble_eq_true rfl) ?_
  refine b_aload_n (pc := 4) X dX1_init_4 rfl rfl ?_
  refine b_bipush (pc := 5) (v := 24) X dX1_init_5 (by decide) ?_
  refine b_newi (pc := 7) (R := rmB mX1_init 1 24) (k := 0) (n := 0) (N := 24) X (by decide) (by decide) (Nat.le_of_ble_eq_true rfl) (Nat.le_of_ble_eq_true rfl) (Nat.le_of_ble_eq_true rfl) dX1_init_7 (fun q1 => ?_)
  refine b_putF (pc := 9) (q := 0) (ws' := ([(h0, .inr (1, [.int 0, .ref q1]))] ++ [(q1, .inl (cA 0, 24, .inl (fun _ => 0)))])) X hin ff_X1_11 rfl rfl rfl (Nat.le_of_ble_eq_true rfl) dX1_init_9 rfl ?_
  exact b_ret (pc := 12) (σ := fun x => match x with | 0 => h0 | _ => q1) (μ := mz) X rfl rfl rfl (by simp only [wo_R]; rfl) dX1_init_12
set_option maxHeartbeats 4000000 in
set_option maxRecDepth 100000 in
theorem c_X5_init : BCon mX5_init 7 49 5 [.int 0, .int 0, .int 0, .int 0, .int 0, .int 0, .int 0, .int 0, .int 0, .int 0, .int 0, .int 0, .int 0, .int 0, .int 0, .null, .null, .null, .null] [] (stS 0) exZ := by
  refine BCon.ofBW (by decide) rfl rfl (Nat.le_of_ble_eq_true rfl) ?_
  intro l cA D A p e s m args below meth c h0 X hin
  refine b_aload_n (pc := 0) X dX5_init_0 rfl rfl ?_
  refine b_objInit (pc := 1) X ol_X5 wo_oi wo_oc dX5_init_1 (Nat.le_of_ble_eq_true rfl) (Nat.le_of_ble_eq_true rfl) ?_
  refine b_aload_n (pc := 4) X dX5_init_4 rfl rfl ?_
  refine b_new (pc := 5) (R := rmB mX5_init 7 49) (k := 0) (n := 0) X fn_X5_9 (Nat.le_of_ble_eq_true rfl) (Nat.le_of_ble_eq_true rfl) dX5_init_5 (fun q1 => ?_)
  refine b_dup (pc := 8) X dX5_init_8 rfl ?_
  refine b_initN (pc := 9) (R := rmB mX5_init 7 49) (k := 1) (n := 3) (st := [.ref q1, .ref h0]) (q := q1) (vs := []) (Y := [(h0, .inr (5, [.int 0, .int 0, .int 0, .int 0, .int 0, .int 0, .int 0, .int 0, .int 0, .int 0, .int 0, .int 0, .int 0, .int 0, .int 0, .null, .null, .null, .null]))]) X ci_X5_11 X.2.1.2.1 rfl c_X0_init ⟨Nat.le_of_ble_eq_true rfl, Nat.le_of_ble_eq_true rfl⟩ (Nat.le_of_ble_eq_true rfl) (Nat.le_of_ble_eq_true rfl) (Nat.le_of_ble_eq_true rfl) dX5_init_9 ?_
  rintro g2 _ rfl rfl
  refine b_putF (pc := 12) (q := 0) (ws' := ([(h0, .inr (5, [.int 0, .int 0, .int 0, .int 0, .int 0, .int 0, .int 0, .int 0, .int 0, .int 0, .int 0, .int 0, .int 0, .int 0, .int 0, .ref (g2 0), .null, .null, .null]))] ++ wo rowS g2 cA mz)) X hin ff_X5_12 rfl rfl rfl (Nat.le_of_ble_eq_true rfl) dX5_init_12 rfl ?_
  refine b_aload_n (pc := 15) X dX5_init_15 rfl rfl ?_
  refine b_new (pc := 16) (R := rmB mX5_init 7 49) (k := 3) (n := 15) X fn_X5_18 (Nat.le_of_ble_eq_true rfl) (Nat.le_of_ble_eq_true rfl) dX5_init_16 (fun q3 => ?_)
  refine b_dup (pc := 19) X dX5_init_19 rfl ?_
  refine b_initN (pc := 20) (R := rmB mX5_init 7 49) (k := 4) (n := 17) (st := [.ref q3, .ref h0]) (q := q3) (vs := []) (Y := ([(h0, .inr (5, [.int 0, .int 0, .int 0, .int 0, .int 0, .int 0, .int 0, .int 0, .int 0, .int 0, .int 0, .int 0, .int 0, .int 0, .int 0, .ref (g2 0), .null, .null, .null]))] ++ wo rowS g2 cA mz)) X ci_X5_20 X.2.1.2.2.1 rfl c_X1_init ⟨Nat.le_of_ble_eq_true rfl, Nat.le_of_ble_eq_true rfl⟩ (Nat.le_of_ble_eq_true rfl) (Nat.le_of_ble_eq_true rfl) (Nat.le_of_ble_eq_true rfl) dX5_init_20 ?_
  rintro g4 _ rfl rfl
  refine b_putF (pc := 23) (q := 0) (ws' := (([(h0, .inr (5, [.int 0, .int 0, .int 0, .int 0, .int 0, .int 0, .int 0, .int 0, .int 0, .int 0, .int 0, .int 0, .int 0, .int 0, .int 0, .ref (g2 0), .ref (g4 0), .null, .null]))] ++ wo rowS g2 cA mz) ++ wo memS g4 cA mz)) X hin ff_X5_21 rfl rfl rfl (Nat.le_of_ble_eq_true rfl) dX5_init_23 rfl ?_
  refine b_aload_n (pc := 26) X dX5_init_26 rfl rfl ?_
  refine b_new (pc := 27) (R := rmB mX5_init 7 49) (k := 5) (n := 41) X fn_X5_25 (Nat.le_of_ble_eq_true rfl) (Nat.le_of_ble_eq_true rfl) dX5_init_27 (fun q5 => ?_)
  refine b_dup (pc := 30) X dX5_init_30 rfl ?_
  refine b_initN (pc := 31) (R := rmB mX5_init 7 49) (k := 6) (n := 45) (st := [.ref q5, .ref h0]) (q := q5) (vs := []) (Y := (([(h0, .inr (5, [.int 0, .int 0, .int 0, .int 0, .int 0, .int 0, .int 0, .int 0, .int 0, .int 0, .int 0, .int 0, .int 0, .int 0, .int 0, .ref (g2 0), .ref (g4 0), .null, .null]))] ++ wo rowS g2 cA mz) ++ wo memS g4 cA mz)) X ci_X5_27 X.2.1.2.2.2.1 rfl c_X4_init ⟨Nat.le_of_ble_eq_true rfl, Nat.le_of_ble_eq_true rfl⟩ (Nat.le_of_ble_eq_true rfl) (Nat.le_of_ble_eq_true rfl) (Nat.le_of_ble_eq_true rfl) dX5_init_31 ?_
  rintro g6 _ rfl rfl
  refine b_putF (pc := 34) (q := 0) (ws' := ((([(h0, .inr (5, [.int 0, .int 0, .int 0, .int 0, .int 0, .int 0, .int 0, .int 0, .int 0, .int 0, .int 0, .int 0, .int 0, .int 0, .int 0, .ref (g2 0), .ref (g4 0), .ref (g6 0), .null]))] ++ wo rowS g2 cA mz) ++ wo memS g4 cA mz) ++ wo sigS g6 cA mz)) X hin ff_X5_28 rfl rfl rfl (Nat.le_of_ble_eq_true rfl) dX5_init_34 rfl ?_
  refine b_aload_n (pc := 37) X dX5_init_37 rfl rfl ?_
  refine b_new (pc := 38) (R := rmB mX5_init 7 49) (k := 6) (n := 45) X fn_X5_25 (Nat.le_of_ble_eq_true rfl) (Nat.le_of_ble_eq_true rfl) dX5_init_38 (fun q7 => ?_)
  refine b_dup (pc := 41) X dX5_init_41 rfl ?_
  refine b_initN (pc := 42) (R := rmB mX5_init 7 49) (k := 7) (n := 49) (st := [.ref q7, .ref h0]) (q := q7) (vs := []) (Y := ((([(h0, .inr (5, [.int 0, .int 0, .int 0, .int 0, .int 0, .int 0, .int 0, .int 0, .int 0, .int 0, .int 0, .int 0, .int 0, .int 0, .int 0, .ref (g2 0), .ref (g4 0), .ref (g6 0), .null]))] ++ wo rowS g2 cA mz) ++ wo memS g4 cA mz) ++ wo sigS g6 cA mz)) X ci_X5_27 X.2.1.2.2.2.1 rfl c_X4_init ⟨Nat.le_of_ble_eq_true rfl, Nat.le_of_ble_eq_true rfl⟩ (Nat.le_of_ble_eq_true rfl) (Nat.le_of_ble_eq_true rfl) (Nat.le_of_ble_eq_true rfl) dX5_init_42 ?_
  rintro g8 _ rfl rfl
  refine b_putF (pc := 45) (q := 0) (ws' := (((([(h0, .inr (5, [.int 0, .int 0, .int 0, .int 0, .int 0, .int 0, .int 0, .int 0, .int 0, .int 0, .int 0, .int 0, .int 0, .int 0, .int 0, .ref (g2 0), .ref (g4 0), .ref (g6 0), .ref (g8 0)]))] ++ wo rowS g2 cA mz) ++ wo memS g4 cA mz) ++ wo sigS g6 cA mz) ++ wo sigS g8 cA mz)) X hin ff_X5_32 rfl rfl rfl (Nat.le_of_ble_eq_true rfl) dX5_init_45 rfl ?_
  exact b_ret (pc := 48) (σ := fun x => match x with | 0 => h0 | 1 => g2 0 | 2 => g2 1 | 3 => g2 2 | 4 => g4 0 | 5 => g4 1 | 6 => g6 0 | _ => g8 0) (μ := mz) X rfl rfl rfl (by simp only [wo_R]; rfl) dX5_init_48
