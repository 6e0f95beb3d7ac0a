/-! the law: a call of both, case by case -/
set_option maxHeartbeats 4000000 in
set_option maxRecDepth 100000 in
theorem law_write {l : Launch} {cA : Nat → ClassId} {D : va_G} {p : Program} {e : Env} {s : State} {m : MethodId} {below : List Frame} {meth : Method} {c : Code} {b L j : Nat} {xs : Nat → Int32} {σ τ : Nat → Nat} {μ ν : Mem} (X : Bx mL cA D (fun q => s.heap.size ≤ q) p s m meth c) (hX : va_X b L xs s s.heap) (hbl : b < s.heap.size) (hL : L ≤ 2048) (hj : 4 * j + 4 ≤ L) (hG : GR μ ν (1 + 100 * j)) (hj2 : j ≤ 511) (hk : ∀ u v, GR u v (1 + 100 * (j + 1)) → BW room_1 mL l D (fun q => s.heap.size ≤ q) p e s m #[Value.ref b] below meth c (lw_Z below #[Value.ref b] s) 320 6150 614 [some (.ref b), some (.ref (σ 0)), some (.ref (τ 0)), some (.int (nI (4 * j)))] [] (wo shC σ cA u ++ wo shM τ cA v)) : BW room_1 mL l D (fun q => s.heap.size ≤ q) p e s m #[Value.ref b] below meth c (lw_Z below #[Value.ref b] s) 320 6150 120 [some (.ref b), some (.ref (σ 0)), some (.ref (τ 0)), some (.int (nI (4 * j)))] [] (wo shC σ cA μ ++ wo shM τ cA ν) := by
  obtain ⟨U, V, hU, hV, hUV⟩ := api_write (xs (4 * j + 1)) hG
  refine b_aload_n (pc := 120) X dL_law_120 rfl rfl ?_
  refine b_aload_n (pc := 121) X dL_law_121 rfl rfl ?_
  refine b_iload_n (pc := 122) X dL_law_122 rfl rfl ?_
  refine b_iconst (pc := 123) (v := 1) X dL_law_123 (by decide) ?_
  refine b_iaddN (pc := 124) (a := 4 * j) (b := 1) rfl X dL_law_124 ?_
  refine b_sld (pc := 125) (j := 4 * j + 1) X hX hbl (Nat.not_le.mpr hbl) (by omega) (by omega) dL_law_125 ?_
  refine BW.cast (st := (([.int (xs (4 * j + 1))] : List Value).map (cvl σ)).reverse ++ .ref (σ 0) :: []) (ws := [] ++ (wo shC σ cA μ ++ wo shM τ cA ν)) ?_ rfl rfl (List.nil_append _)
  refine b_conI (pc := 126) (R := room_1) (k := 320) (n := 6150) (b := 0) (As := [.int (xs (4 * j + 1))]) X ck_L_13 ⟨Nat.le_of_ble_eq_true rfl, Nat.le_of_ble_eq_true rfl⟩ rfl (by decide) rfl (Nat.le_of_ble_eq_true rfl) (Nat.le_of_ble_eq_true rfl) (Nat.le_of_ble_eq_true rfl) dL_law_126 rfl hU ?_
  intro r u hu
  refine b_aload_n (pc := 129) X dL_law_129 rfl rfl ?_
  refine b_aload_n (pc := 130) X dL_law_130 rfl rfl ?_
  refine b_iload_n (pc := 131) X dL_law_131 rfl rfl ?_
  refine b_iconst (pc := 132) (v := 1) X dL_law_132 (by decide) ?_
  refine b_iaddN (pc := 133) (a := 4 * j) (b := 1) rfl X dL_law_133 ?_
  refine b_sld (pc := 134) (j := 4 * j + 1) X hX hbl (Nat.not_le.mpr hbl) (by omega) (by omega) dL_law_134 ?_
  refine BW.cast (st := (([.int (xs (4 * j + 1))] : List Value).map (cvl τ)).reverse ++ .ref (τ 0) :: [.int r]) (ws := wo shC σ cA u ++ (wo shM τ cA ν ++ [])) ?_ rfl rfl (by rw [List.append_nil, List.nil_append])
  refine b_conI (pc := 135) (R := room_1) (k := 320) (n := 6150) (b := 0) (As := [.int (xs (4 * j + 1))]) X ck_L_17 ⟨Nat.le_of_ble_eq_true rfl, Nat.le_of_ble_eq_true rfl⟩ rfl (by decide) rfl (Nat.le_of_ble_eq_true rfl) (Nat.le_of_ble_eq_true rfl) (Nat.le_of_ble_eq_true rfl) dL_law_135 rfl hV ?_
  intro q v hv
  obtain ⟨hrq, hG2⟩ := hUV r u q v hu hv
  refine b_icmp_eq (pc := 138) (tgt := 614) X dL_law_138 (by decide) (fun _ => ?_) (fun h => absurd hrq h)
  exact BW.cast (hk u v (hG2.mono (by omega))) rfl rfl (by rw [List.append_nil])
set_option maxHeartbeats 4000000 in
set_option maxRecDepth 100000 in
theorem law_wipe {l : Launch} {cA : Nat → ClassId} {D : va_G} {p : Program} {e : Env} {s : State} {m : MethodId} {below : List Frame} {meth : Method} {c : Code} {b L j : Nat} {xs : Nat → Int32} {σ τ : Nat → Nat} {μ ν : Mem} (X : Bx mL cA D (fun q => s.heap.size ≤ q) p s m meth c) (hX : va_X b L xs s s.heap) (hbl : b < s.heap.size) (hL : L ≤ 2048) (hj : 4 * j + 4 ≤ L) (hG : GR μ ν (1 + 100 * j)) (hj2 : j ≤ 511) (hk : ∀ u v, GR u v (1 + 100 * (j + 1)) → BW room_1 mL l D (fun q => s.heap.size ≤ q) p e s m #[Value.ref b] below meth c (lw_Z below #[Value.ref b] s) 320 6150 614 [some (.ref b), some (.ref (σ 0)), some (.ref (τ 0)), some (.int (nI (4 * j)))] [] (wo shC σ cA u ++ wo shM τ cA v)) : BW room_1 mL l D (fun q => s.heap.size ≤ q) p e s m #[Value.ref b] below meth c (lw_Z below #[Value.ref b] s) 320 6150 143 [some (.ref b), some (.ref (σ 0)), some (.ref (τ 0)), some (.int (nI (4 * j)))] [] (wo shC σ cA μ ++ wo shM τ cA ν) := by
  obtain ⟨U, V, hU, hV, hUV⟩ := api_wipe hG
  refine b_aload_n (pc := 143) X dL_law_143 rfl rfl ?_
  refine BW.cast (st := (([] : List Value).map (cvl σ)).reverse ++ .ref (σ 0) :: []) (ws := [] ++ (wo shC σ cA μ ++ wo shM τ cA ν)) ?_ rfl rfl (List.nil_append _)
  refine b_conI (pc := 144) (R := room_1) (k := 320) (n := 6150) (b := 0) (As := []) X ck_L_18 ⟨Nat.le_of_ble_eq_true rfl, Nat.le_of_ble_eq_true rfl⟩ rfl (by decide) rfl (Nat.le_of_ble_eq_true rfl) (Nat.le_of_ble_eq_true rfl) (Nat.le_of_ble_eq_true rfl) dL_law_144 rfl hU ?_
  intro r u hu
  refine b_aload_n (pc := 147) X dL_law_147 rfl rfl ?_
  refine BW.cast (st := (([] : List Value).map (cvl τ)).reverse ++ .ref (τ 0) :: [.int r]) (ws := wo shC σ cA u ++ (wo shM τ cA ν ++ [])) ?_ rfl rfl (by rw [List.append_nil, List.nil_append])
  refine b_conI (pc := 148) (R := room_1) (k := 320) (n := 6150) (b := 0) (As := []) X ck_L_22 ⟨Nat.le_of_ble_eq_true rfl, Nat.le_of_ble_eq_true rfl⟩ rfl (by decide) rfl (Nat.le_of_ble_eq_true rfl) (Nat.le_of_ble_eq_true rfl) (Nat.le_of_ble_eq_true rfl) dL_law_148 rfl hV ?_
  intro q v hv
  obtain ⟨hrq, hG2⟩ := hUV r u q v hu hv
  refine b_icmp_eq (pc := 151) (tgt := 614) X dL_law_151 (by decide) (fun _ => ?_) (fun h => absurd hrq h)
  exact BW.cast (hk u v (hG2.mono (by omega))) rfl rfl (by rw [List.append_nil])
set_option maxHeartbeats 4000000 in
set_option maxRecDepth 100000 in
theorem law_fault {l : Launch} {cA : Nat → ClassId} {D : va_G} {p : Program} {e : Env} {s : State} {m : MethodId} {below : List Frame} {meth : Method} {c : Code} {b L j : Nat} {xs : Nat → Int32} {σ τ : Nat → Nat} {μ ν : Mem} (X : Bx mL cA D (fun q => s.heap.size ≤ q) p s m meth c) (hX : va_X b L xs s s.heap) (hbl : b < s.heap.size) (hL : L ≤ 2048) (hj : 4 * j + 4 ≤ L) (hG : GR μ ν (1 + 100 * j)) (hj2 : j ≤ 511) (hk : ∀ u v, GR u v (1 + 100 * (j + 1)) → BW room_1 mL l D (fun q => s.heap.size ≤ q) p e s m #[Value.ref b] below meth c (lw_Z below #[Value.ref b] s) 320 6150 614 [some (.ref b), some (.ref (σ 0)), some (.ref (τ 0)), some (.int (nI (4 * j)))] [] (wo shC σ cA u ++ wo shM τ cA v)) : BW room_1 mL l D (fun q => s.heap.size ≤ q) p e s m #[Value.ref b] below meth c (lw_Z below #[Value.ref b] s) 320 6150 156 [some (.ref b), some (.ref (σ 0)), some (.ref (τ 0)), some (.int (nI (4 * j)))] [] (wo shC σ cA μ ++ wo shM τ cA ν) := by
  obtain ⟨U, V, hU, hV, hUV⟩ := api_fault hG
  refine b_aload_n (pc := 156) X dL_law_156 rfl rfl ?_
  refine BW.cast (st := (([] : List Value).map (cvl σ)).reverse ++ .ref (σ 0) :: []) (ws := [] ++ (wo shC σ cA μ ++ wo shM τ cA ν)) ?_ rfl rfl (List.nil_append _)
  refine b_conI (pc := 157) (R := room_1) (k := 320) (n := 6150) (b := 0) (As := []) X ck_L_23 ⟨Nat.le_of_ble_eq_true rfl, Nat.le_of_ble_eq_true rfl⟩ rfl (by decide) rfl (Nat.le_of_ble_eq_true rfl) (Nat.le_of_ble_eq_true rfl) (Nat.le_of_ble_eq_true rfl) dL_law_157 rfl hU ?_
  intro r u hu
  refine b_aload_n (pc := 160) X dL_law_160 rfl rfl ?_
  refine BW.cast (st := (([] : List Value).map (cvl τ)).reverse ++ .ref (τ 0) :: [.int r]) (ws := wo shC σ cA u ++ (wo shM τ cA ν ++ [])) ?_ rfl rfl (by rw [List.append_nil, List.nil_append])
  refine b_conI (pc := 161) (R := room_1) (k := 320) (n := 6150) (b := 0) (As := []) X ck_L_26 ⟨Nat.le_of_ble_eq_true rfl, Nat.le_of_ble_eq_true rfl⟩ rfl (by decide) rfl (Nat.le_of_ble_eq_true rfl) (Nat.le_of_ble_eq_true rfl) (Nat.le_of_ble_eq_true rfl) dL_law_161 rfl hV ?_
  intro q v hv
  obtain ⟨hrq, hG2⟩ := hUV r u q v hu hv
  refine b_icmp_eq (pc := 164) (tgt := 614) X dL_law_164 (by decide) (fun _ => ?_) (fun h => absurd hrq h)
  exact BW.cast (hk u v (hG2.mono (by omega))) rfl rfl (by rw [List.append_nil])
set_option maxHeartbeats 4000000 in
set_option maxRecDepth 100000 in
theorem law_lay {l : Launch} {cA : Nat → ClassId} {D : va_G} {p : Program} {e : Env} {s : State} {m : MethodId} {below : List Frame} {meth : Method} {c : Code} {b L j : Nat} {xs : Nat → Int32} {σ τ : Nat → Nat} {μ ν : Mem} (X : Bx mL cA D (fun q => s.heap.size ≤ q) p s m meth c) (hX : va_X b L xs s s.heap) (hbl : b < s.heap.size) (hL : L ≤ 2048) (hj : 4 * j + 4 ≤ L) (hG : GR μ ν (1 + 100 * j)) (hj2 : j ≤ 511) (hk : ∀ u v, GR u v (1 + 100 * (j + 1)) → BW room_1 mL l D (fun q => s.heap.size ≤ q) p e s m #[Value.ref b] below meth c (lw_Z below #[Value.ref b] s) 320 6150 614 [some (.ref b), some (.ref (σ 0)), some (.ref (τ 0)), some (.int (nI (4 * j)))] [] (wo shC σ cA u ++ wo shM τ cA v)) : BW room_1 mL l D (fun q => s.heap.size ≤ q) p e s m #[Value.ref b] below meth c (lw_Z below #[Value.ref b] s) 320 6150 169 [some (.ref b), some (.ref (σ 0)), some (.ref (τ 0)), some (.int (nI (4 * j)))] [] (wo shC σ cA μ ++ wo shM τ cA ν) := by
  obtain ⟨U, V, hU, hV, hUV⟩ := api_lay hG
  refine b_aload_n (pc := 169) X dL_law_169 rfl rfl ?_
  refine BW.cast (st := (([] : List Value).map (cvl σ)).reverse ++ .ref (σ 0) :: []) (ws := [] ++ (wo shC σ cA μ ++ wo shM τ cA ν)) ?_ rfl rfl (List.nil_append _)
  refine b_conI (pc := 170) (R := room_1) (k := 320) (n := 6150) (b := 0) (As := []) X ck_L_27 ⟨Nat.le_of_ble_eq_true rfl, Nat.le_of_ble_eq_true rfl⟩ rfl (by decide) rfl (Nat.le_of_ble_eq_true rfl) (Nat.le_of_ble_eq_true rfl) (Nat.le_of_ble_eq_true rfl) dL_law_170 rfl hU ?_
  intro r u hu
  refine b_aload_n (pc := 173) X dL_law_173 rfl rfl ?_
  refine BW.cast (st := (([] : List Value).map (cvl τ)).reverse ++ .ref (τ 0) :: [.int r]) (ws := wo shC σ cA u ++ (wo shM τ cA ν ++ [])) ?_ rfl rfl (by rw [List.append_nil, List.nil_append])
  refine b_conI (pc := 174) (R := room_1) (k := 320) (n := 6150) (b := 0) (As := []) X ck_L_30 ⟨Nat.le_of_ble_eq_true rfl, Nat.le_of_ble_eq_true rfl⟩ rfl (by decide) rfl (Nat.le_of_ble_eq_true rfl) (Nat.le_of_ble_eq_true rfl) (Nat.le_of_ble_eq_true rfl) dL_law_174 rfl hV ?_
  intro q v hv
  obtain ⟨hrq, hG2⟩ := hUV r u q v hu hv
  refine b_icmp_eq (pc := 177) (tgt := 614) X dL_law_177 (by decide) (fun _ => ?_) (fun h => absurd hrq h)
  exact BW.cast (hk u v (hG2.mono (by omega))) rfl rfl (by rw [List.append_nil])
set_option maxHeartbeats 4000000 in
set_option maxRecDepth 100000 in
theorem law_letter {l : Launch} {cA : Nat → ClassId} {D : va_G} {p : Program} {e : Env} {s : State} {m : MethodId} {below : List Frame} {meth : Method} {c : Code} {b L j : Nat} {xs : Nat → Int32} {σ τ : Nat → Nat} {μ ν : Mem} (X : Bx mL cA D (fun q => s.heap.size ≤ q) p s m meth c) (hX : va_X b L xs s s.heap) (hbl : b < s.heap.size) (hL : L ≤ 2048) (hj : 4 * j + 4 ≤ L) (hG : GR μ ν (1 + 100 * j)) (hj2 : j ≤ 511) (hk : ∀ u v, GR u v (1 + 100 * (j + 1)) → BW room_1 mL l D (fun q => s.heap.size ≤ q) p e s m #[Value.ref b] below meth c (lw_Z below #[Value.ref b] s) 320 6150 614 [some (.ref b), some (.ref (σ 0)), some (.ref (τ 0)), some (.int (nI (4 * j)))] [] (wo shC σ cA u ++ wo shM τ cA v)) : BW room_1 mL l D (fun q => s.heap.size ≤ q) p e s m #[Value.ref b] below meth c (lw_Z below #[Value.ref b] s) 320 6150 182 [some (.ref b), some (.ref (σ 0)), some (.ref (τ 0)), some (.int (nI (4 * j)))] [] (wo shC σ cA μ ++ wo shM τ cA ν) := by
  obtain ⟨U, V, hU, hV, hUV⟩ := api_letter (xs (4 * j + 1)) (xs (4 * j + 2)) (xs (4 * j + 3)) hG (by omega)
  refine b_aload_n (pc := 182) X dL_law_182 rfl rfl ?_
  refine b_aload_n (pc := 183) X dL_law_183 rfl rfl ?_
  refine b_iload_n (pc := 184) X dL_law_184 rfl rfl ?_
  refine b_iconst (pc := 185) (v := 1) X dL_law_185 (by decide) ?_
  refine b_iaddN (pc := 186) (a := 4 * j) (b := 1) rfl X dL_law_186 ?_
  refine b_sld (pc := 187) (j := 4 * j + 1) X hX hbl (Nat.not_le.mpr hbl) (by omega) (by omega) dL_law_187 ?_
  refine b_aload_n (pc := 188) X dL_law_188 rfl rfl ?_
  refine b_iload_n (pc := 189) X dL_law_189 rfl rfl ?_
  refine b_iconst (pc := 190) (v := 2) X dL_law_190 (by decide) ?_
  refine b_iaddN (pc := 191) (a := 4 * j) (b := 2) rfl X dL_law_191 ?_
  refine b_sld (pc := 192) (j := 4 * j + 2) X hX hbl (Nat.not_le.mpr hbl) (by omega) (by omega) dL_law_192 ?_
  refine b_aload_n (pc := 193) X dL_law_193 rfl rfl ?_
  refine b_iload_n (pc := 194) X dL_law_194 rfl rfl ?_
  refine b_iconst (pc := 195) (v := 3) X dL_law_195 (by decide) ?_
  refine b_iaddN (pc := 196) (a := 4 * j) (b := 3) rfl X dL_law_196 ?_
  refine b_sld (pc := 197) (j := 4 * j + 3) X hX hbl (Nat.not_le.mpr hbl) (by omega) (by omega) dL_law_197 ?_
  refine BW.cast (st := (([.int (xs (4 * j + 1)), .int (xs (4 * j + 2)), .int (xs (4 * j + 3))] : List Value).map (cvl σ)).reverse ++ .ref (σ 0) :: []) (ws := [] ++ (wo shC σ cA μ ++ wo shM τ cA ν)) ?_ rfl rfl (List.nil_append _)
  refine b_conI (pc := 198) (R := room_1) (k := 320) (n := 6150) (b := 0) (As := [.int (xs (4 * j + 1)), .int (xs (4 * j + 2)), .int (xs (4 * j + 3))]) X ck_L_31 ⟨Nat.le_of_ble_eq_true rfl, Nat.le_of_ble_eq_true rfl⟩ rfl (by decide) rfl (Nat.le_of_ble_eq_true rfl) (Nat.le_of_ble_eq_true rfl) (Nat.le_of_ble_eq_true rfl) dL_law_198 rfl hU ?_
  intro r u hu
  refine b_aload_n (pc := 201) X dL_law_201 rfl rfl ?_
  refine b_aload_n (pc := 202) X dL_law_202 rfl rfl ?_
  refine b_iload_n (pc := 203) X dL_law_203 rfl rfl ?_
  refine b_iconst (pc := 204) (v := 1) X dL_law_204 (by decide) ?_
  refine b_iaddN (pc := 205) (a := 4 * j) (b := 1) rfl X dL_law_205 ?_
  refine b_sld (pc := 206) (j := 4 * j + 1) X hX hbl (Nat.not_le.mpr hbl) (by omega) (by omega) dL_law_206 ?_
  refine b_aload_n (pc := 207) X dL_law_207 rfl rfl ?_
  refine b_iload_n (pc := 208) X dL_law_208 rfl rfl ?_
  refine b_iconst (pc := 209) (v := 2) X dL_law_209 (by decide) ?_
  refine b_iaddN (pc := 210) (a := 4 * j) (b := 2) rfl X dL_law_210 ?_
  refine b_sld (pc := 211) (j := 4 * j + 2) X hX hbl (Nat.not_le.mpr hbl) (by omega) (by omega) dL_law_211 ?_
  refine b_aload_n (pc := 212) X dL_law_212 rfl rfl ?_
  refine b_iload_n (pc := 213) X dL_law_213 rfl rfl ?_
  refine b_iconst (pc := 214) (v := 3) X dL_law_214 (by decide) ?_
  refine b_iaddN (pc := 215) (a := 4 * j) (b := 3) rfl X dL_law_215 ?_
  refine b_sld (pc := 216) (j := 4 * j + 3) X hX hbl (Nat.not_le.mpr hbl) (by omega) (by omega) dL_law_216 ?_
  refine BW.cast (st := (([.int (xs (4 * j + 1)), .int (xs (4 * j + 2)), .int (xs (4 * j + 3))] : List Value).map (cvl τ)).reverse ++ .ref (τ 0) :: [.int r]) (ws := wo shC σ cA u ++ (wo shM τ cA ν ++ [])) ?_ rfl rfl (by rw [List.append_nil, List.nil_append])
  refine b_conI (pc := 217) (R := room_1) (k := 320) (n := 6150) (b := 0) (As := [.int (xs (4 * j + 1)), .int (xs (4 * j + 2)), .int (xs (4 * j + 3))]) X ck_L_35 ⟨Nat.le_of_ble_eq_true rfl, Nat.le_of_ble_eq_true rfl⟩ rfl (by decide) rfl (Nat.le_of_ble_eq_true rfl) (Nat.le_of_ble_eq_true rfl) (Nat.le_of_ble_eq_true rfl) dL_law_217 rfl hV ?_
  intro q v hv
  obtain ⟨hrq, hG2⟩ := hUV r u q v hu hv
  refine b_icmp_eq (pc := 220) (tgt := 614) X dL_law_220 (by decide) (fun _ => ?_) (fun h => absurd hrq h)
  exact BW.cast (hk u v (hG2.mono (by omega))) rfl rfl (by rw [List.append_nil])
set_option maxHeartbeats 4000000 in
set_option maxRecDepth 100000 in
theorem law_hear {l : Launch} {cA : Nat → ClassId} {D : va_G} {p : Program} {e : Env} {s : State} {m : MethodId} {below : List Frame} {meth : Method} {c : Code} {b L j : Nat} {xs : Nat → Int32} {σ τ : Nat → Nat} {μ ν : Mem} (X : Bx mL cA D (fun q => s.heap.size ≤ q) p s m meth c) (hX : va_X b L xs s s.heap) (hbl : b < s.heap.size) (hL : L ≤ 2048) (hj : 4 * j + 4 ≤ L) (hG : GR μ ν (1 + 100 * j)) (hj2 : j ≤ 511) (hk : ∀ u v, GR u v (1 + 100 * (j + 1)) → BW room_1 mL l D (fun q => s.heap.size ≤ q) p e s m #[Value.ref b] below meth c (lw_Z below #[Value.ref b] s) 320 6150 614 [some (.ref b), some (.ref (σ 0)), some (.ref (τ 0)), some (.int (nI (4 * j)))] [] (wo shC σ cA u ++ wo shM τ cA v)) : BW room_1 mL l D (fun q => s.heap.size ≤ q) p e s m #[Value.ref b] below meth c (lw_Z below #[Value.ref b] s) 320 6150 225 [some (.ref b), some (.ref (σ 0)), some (.ref (τ 0)), some (.int (nI (4 * j)))] [] (wo shC σ cA μ ++ wo shM τ cA ν) := by
  obtain ⟨U, V, hU, hV, hUV⟩ := api_hear (xs (4 * j + 1)) (xs (4 * j + 2)) (xs (4 * j + 3)) hG
  refine b_aload_n (pc := 225) X dL_law_225 rfl rfl ?_
  refine b_aload_n (pc := 226) X dL_law_226 rfl rfl ?_
  refine b_iload_n (pc := 227) X dL_law_227 rfl rfl ?_
  refine b_iconst (pc := 228) (v := 1) X dL_law_228 (by decide) ?_
  refine b_iaddN (pc := 229) (a := 4 * j) (b := 1) rfl X dL_law_229 ?_
  refine b_sld (pc := 230) (j := 4 * j + 1) X hX hbl (Nat.not_le.mpr hbl) (by omega) (by omega) dL_law_230 ?_
  refine b_aload_n (pc := 231) X dL_law_231 rfl rfl ?_
  refine b_iload_n (pc := 232) X dL_law_232 rfl rfl ?_
  refine b_iconst (pc := 233) (v := 2) X dL_law_233 (by decide) ?_
  refine b_iaddN (pc := 234) (a := 4 * j) (b := 2) rfl X dL_law_234 ?_
  refine b_sld (pc := 235) (j := 4 * j + 2) X hX hbl (Nat.not_le.mpr hbl) (by omega) (by omega) dL_law_235 ?_
  refine b_aload_n (pc := 236) X dL_law_236 rfl rfl ?_
  refine b_iload_n (pc := 237) X dL_law_237 rfl rfl ?_
  refine b_iconst (pc := 238) (v := 3) X dL_law_238 (by decide) ?_
  refine b_iaddN (pc := 239) (a := 4 * j) (b := 3) rfl X dL_law_239 ?_
  refine b_sld (pc := 240) (j := 4 * j + 3) X hX hbl (Nat.not_le.mpr hbl) (by omega) (by omega) dL_law_240 ?_
  refine BW.cast (st := (([.int (xs (4 * j + 1)), .int (xs (4 * j + 2)), .int (xs (4 * j + 3))] : List Value).map (cvl σ)).reverse ++ .ref (σ 0) :: []) (ws := [] ++ (wo shC σ cA μ ++ wo shM τ cA ν)) ?_ rfl rfl (List.nil_append _)
  refine b_conI (pc := 241) (R := room_1) (k := 320) (n := 6150) (b := 0) (As := [.int (xs (4 * j + 1)), .int (xs (4 * j + 2)), .int (xs (4 * j + 3))]) X ck_L_36 ⟨Nat.le_of_ble_eq_true rfl, Nat.le_of_ble_eq_true rfl⟩ rfl (by decide) rfl (Nat.le_of_ble_eq_true rfl) (Nat.le_of_ble_eq_true rfl) (Nat.le_of_ble_eq_true rfl) dL_law_241 rfl hU ?_
  intro r u hu
  refine b_aload_n (pc := 244) X dL_law_244 rfl rfl ?_
  refine b_aload_n (pc := 245) X dL_law_245 rfl rfl ?_
  refine b_iload_n (pc := 246) X dL_law_246 rfl rfl ?_
  refine b_iconst (pc := 247) (v := 1) X dL_law_247 (by decide) ?_
  refine b_iaddN (pc := 248) (a := 4 * j) (b := 1) rfl X dL_law_248 ?_
  refine b_sld (pc := 249) (j := 4 * j + 1) X hX hbl (Nat.not_le.mpr hbl) (by omega) (by omega) dL_law_249 ?_
  refine b_aload_n (pc := 250) X dL_law_250 rfl rfl ?_
  refine b_iload_n (pc := 251) X dL_law_251 rfl rfl ?_
  refine b_iconst (pc := 252) (v := 2) X dL_law_252 (by decide) ?_
  refine b_iaddN (pc := 253) (a := 4 * j) (b := 2) rfl X dL_law_253 ?_
  refine b_sld (pc := 254) (j := 4 * j + 2) X hX hbl (Nat.not_le.mpr hbl) (by omega) (by omega) dL_law_254 ?_
  refine b_aload_n (pc := 255) X dL_law_255 rfl rfl ?_
  refine b_iload_n (pc := 256) X dL_law_256 rfl rfl ?_
  refine b_iconst (pc := 257) (v := 3) X dL_law_257 (by decide) ?_
  refine b_iaddN (pc := 258) (a := 4 * j) (b := 3) rfl X dL_law_258 ?_
  refine b_sld (pc := 259) (j := 4 * j + 3) X hX hbl (Nat.not_le.mpr hbl) (by omega) (by omega) dL_law_259 ?_
  refine BW.cast (st := (([.int (xs (4 * j + 1)), .int (xs (4 * j + 2)), .int (xs (4 * j + 3))] : List Value).map (cvl τ)).reverse ++ .ref (τ 0) :: [.int r]) (ws := wo shC σ cA u ++ (wo shM τ cA ν ++ [])) ?_ rfl rfl (by rw [List.append_nil, List.nil_append])
  refine b_conI (pc := 260) (R := room_1) (k := 320) (n := 6150) (b := 0) (As := [.int (xs (4 * j + 1)), .int (xs (4 * j + 2)), .int (xs (4 * j + 3))]) X ck_L_39 ⟨Nat.le_of_ble_eq_true rfl, Nat.le_of_ble_eq_true rfl⟩ rfl (by decide) rfl (Nat.le_of_ble_eq_true rfl) (Nat.le_of_ble_eq_true rfl) (Nat.le_of_ble_eq_true rfl) dL_law_260 rfl hV ?_
  intro q v hv
  obtain ⟨hrq, hG2⟩ := hUV r u q v hu hv
  refine b_icmp_eq (pc := 263) (tgt := 614) X dL_law_263 (by decide) (fun _ => ?_) (fun h => absurd hrq h)
  exact BW.cast (hk u v (hG2.mono (by omega))) rfl rfl (by rw [List.append_nil])
set_option maxHeartbeats 4000000 in
set_option maxRecDepth 100000 in
theorem law_draws {l : Launch} {cA : Nat → ClassId} {D : va_G} {p : Program} {e : Env} {s : State} {m : MethodId} {below : List Frame} {meth : Method} {c : Code} {b L j : Nat} {xs : Nat → Int32} {σ τ : Nat → Nat} {μ ν : Mem} (X : Bx mL cA D (fun q => s.heap.size ≤ q) p s m meth c) (hX : va_X b L xs s s.heap) (hbl : b < s.heap.size) (hL : L ≤ 2048) (hj : 4 * j + 4 ≤ L) (hG : GR μ ν (1 + 100 * j)) (hj2 : j ≤ 511) (hk : ∀ u v, GR u v (1 + 100 * (j + 1)) → BW room_1 mL l D (fun q => s.heap.size ≤ q) p e s m #[Value.ref b] below meth c (lw_Z below #[Value.ref b] s) 320 6150 614 [some (.ref b), some (.ref (σ 0)), some (.ref (τ 0)), some (.int (nI (4 * j)))] [] (wo shC σ cA u ++ wo shM τ cA v)) : BW room_1 mL l D (fun q => s.heap.size ≤ q) p e s m #[Value.ref b] below meth c (lw_Z below #[Value.ref b] s) 320 6150 268 [some (.ref b), some (.ref (σ 0)), some (.ref (τ 0)), some (.int (nI (4 * j)))] [] (wo shC σ cA μ ++ wo shM τ cA ν) := by
  obtain ⟨U, V, hU, hV, hUV⟩ := api_draws (xs (4 * j + 1)) hG
  refine b_aload_n (pc := 268) X dL_law_268 rfl rfl ?_
  refine b_aload_n (pc := 269) X dL_law_269 rfl rfl ?_
  refine b_iload_n (pc := 270) X dL_law_270 rfl rfl ?_
  refine b_iconst (pc := 271) (v := 1) X dL_law_271 (by decide) ?_
  refine b_iaddN (pc := 272) (a := 4 * j) (b := 1) rfl X dL_law_272 ?_
  refine b_sld (pc := 273) (j := 4 * j + 1) X hX hbl (Nat.not_le.mpr hbl) (by omega) (by omega) dL_law_273 ?_
  refine BW.cast (st := (([.int (xs (4 * j + 1))] : List Value).map (cvl σ)).reverse ++ .ref (σ 0) :: []) (ws := [] ++ (wo shC σ cA μ ++ wo shM τ cA ν)) ?_ rfl rfl (List.nil_append _)
  refine b_conI (pc := 274) (R := room_1) (k := 320) (n := 6150) (b := 0) (As := [.int (xs (4 * j + 1))]) X ck_L_40 ⟨Nat.le_of_ble_eq_true rfl, Nat.le_of_ble_eq_true rfl⟩ rfl (by decide) rfl (Nat.le_of_ble_eq_true rfl) (Nat.le_of_ble_eq_true rfl) (Nat.le_of_ble_eq_true rfl) dL_law_274 rfl hU ?_
  intro r u hu
  refine b_aload_n (pc := 277) X dL_law_277 rfl rfl ?_
  refine b_aload_n (pc := 278) X dL_law_278 rfl rfl ?_
  refine b_iload_n (pc := 279) X dL_law_279 rfl rfl ?_
  refine b_iconst (pc := 280) (v := 1) X dL_law_280 (by decide) ?_
  refine b_iaddN (pc := 281) (a := 4 * j) (b := 1) rfl X dL_law_281 ?_
  refine b_sld (pc := 282) (j := 4 * j + 1) X hX hbl (Nat.not_le.mpr hbl) (by omega) (by omega) dL_law_282 ?_
  refine BW.cast (st := (([.int (xs (4 * j + 1))] : List Value).map (cvl τ)).reverse ++ .ref (τ 0) :: [.int r]) (ws := wo shC σ cA u ++ (wo shM τ cA ν ++ [])) ?_ rfl rfl (by rw [List.append_nil, List.nil_append])
  refine b_conI (pc := 283) (R := room_1) (k := 320) (n := 6150) (b := 0) (As := [.int (xs (4 * j + 1))]) X ck_L_43 ⟨Nat.le_of_ble_eq_true rfl, Nat.le_of_ble_eq_true rfl⟩ rfl (by decide) rfl (Nat.le_of_ble_eq_true rfl) (Nat.le_of_ble_eq_true rfl) (Nat.le_of_ble_eq_true rfl) dL_law_283 rfl hV ?_
  intro q v hv
  obtain ⟨hrq, hG2⟩ := hUV r u q v hu hv
  refine b_icmp_eq (pc := 286) (tgt := 614) X dL_law_286 (by decide) (fun _ => ?_) (fun h => absurd hrq h)
  exact BW.cast (hk u v (hG2.mono (by omega))) rfl rfl (by rw [List.append_nil])
set_option maxHeartbeats 4000000 in
set_option maxRecDepth 100000 in
theorem law_slot {l : Launch} {cA : Nat → ClassId} {D : va_G} {p : Program} {e : Env} {s : State} {m : MethodId} {below : List Frame} {meth : Method} {c : Code} {b L j : Nat} {xs : Nat → Int32} {σ τ : Nat → Nat} {μ ν : Mem} (X : Bx mL cA D (fun q => s.heap.size ≤ q) p s m meth c) (hX : va_X b L xs s s.heap) (hbl : b < s.heap.size) (hL : L ≤ 2048) (hj : 4 * j + 4 ≤ L) (hG : GR μ ν (1 + 100 * j)) (hj2 : j ≤ 511) (hk : ∀ u v, GR u v (1 + 100 * (j + 1)) → BW room_1 mL l D (fun q => s.heap.size ≤ q) p e s m #[Value.ref b] below meth c (lw_Z below #[Value.ref b] s) 320 6150 614 [some (.ref b), some (.ref (σ 0)), some (.ref (τ 0)), some (.int (nI (4 * j)))] [] (wo shC σ cA u ++ wo shM τ cA v)) : BW room_1 mL l D (fun q => s.heap.size ≤ q) p e s m #[Value.ref b] below meth c (lw_Z below #[Value.ref b] s) 320 6150 291 [some (.ref b), some (.ref (σ 0)), some (.ref (τ 0)), some (.int (nI (4 * j)))] [] (wo shC σ cA μ ++ wo shM τ cA ν) := by
  obtain ⟨U, V, hU, hV, hUV⟩ := api_slot (xs (4 * j + 1)) hG (by omega)
  refine b_aload_n (pc := 291) X dL_law_291 rfl rfl ?_
  refine b_aload_n (pc := 292) X dL_law_292 rfl rfl ?_
  refine b_iload_n (pc := 293) X dL_law_293 rfl rfl ?_
  refine b_iconst (pc := 294) (v := 1) X dL_law_294 (by decide) ?_
  refine b_iaddN (pc := 295) (a := 4 * j) (b := 1) rfl X dL_law_295 ?_
  refine b_sld (pc := 296) (j := 4 * j + 1) X hX hbl (Nat.not_le.mpr hbl) (by omega) (by omega) dL_law_296 ?_
  refine BW.cast (st := (([.int (xs (4 * j + 1))] : List Value).map (cvl σ)).reverse ++ .ref (σ 0) :: []) (ws := [] ++ (wo shC σ cA μ ++ wo shM τ cA ν)) ?_ rfl rfl (List.nil_append _)
  refine b_conI (pc := 297) (R := room_1) (k := 320) (n := 6150) (b := 0) (As := [.int (xs (4 * j + 1))]) X ck_L_44 ⟨Nat.le_of_ble_eq_true rfl, Nat.le_of_ble_eq_true rfl⟩ rfl (by decide) rfl (Nat.le_of_ble_eq_true rfl) (Nat.le_of_ble_eq_true rfl) (Nat.le_of_ble_eq_true rfl) dL_law_297 rfl hU ?_
  intro r u hu
  refine b_aload_n (pc := 300) X dL_law_300 rfl rfl ?_
  refine b_aload_n (pc := 301) X dL_law_301 rfl rfl ?_
  refine b_iload_n (pc := 302) X dL_law_302 rfl rfl ?_
  refine b_iconst (pc := 303) (v := 1) X dL_law_303 (by decide) ?_
  refine b_iaddN (pc := 304) (a := 4 * j) (b := 1) rfl X dL_law_304 ?_
  refine b_sld (pc := 305) (j := 4 * j + 1) X hX hbl (Nat.not_le.mpr hbl) (by omega) (by omega) dL_law_305 ?_
  refine BW.cast (st := (([.int (xs (4 * j + 1))] : List Value).map (cvl τ)).reverse ++ .ref (τ 0) :: [.int r]) (ws := wo shC σ cA u ++ (wo shM τ cA ν ++ [])) ?_ rfl rfl (by rw [List.append_nil, List.nil_append])
  refine b_conI (pc := 306) (R := room_1) (k := 320) (n := 6150) (b := 0) (As := [.int (xs (4 * j + 1))]) X ck_L_47 ⟨Nat.le_of_ble_eq_true rfl, Nat.le_of_ble_eq_true rfl⟩ rfl (by decide) rfl (Nat.le_of_ble_eq_true rfl) (Nat.le_of_ble_eq_true rfl) (Nat.le_of_ble_eq_true rfl) dL_law_306 rfl hV ?_
  intro q v hv
  obtain ⟨hrq, hG2⟩ := hUV r u q v hu hv
  refine b_icmp_eq (pc := 309) (tgt := 614) X dL_law_309 (by decide) (fun _ => ?_) (fun h => absurd hrq h)
  exact BW.cast (hk u v (hG2.mono (by omega))) rfl rfl (by rw [List.append_nil])
set_option maxHeartbeats 4000000 in
set_option maxRecDepth 100000 in
theorem law_undo {l : Launch} {cA : Nat → ClassId} {D : va_G} {p : Program} {e : Env} {s : State} {m : MethodId} {below : List Frame} {meth : Method} {c : Code} {b L j : Nat} {xs : Nat → Int32} {σ τ : Nat → Nat} {μ ν : Mem} (X : Bx mL cA D (fun q => s.heap.size ≤ q) p s m meth c) (hX : va_X b L xs s s.heap) (hbl : b < s.heap.size) (hL : L ≤ 2048) (hj : 4 * j + 4 ≤ L) (hG : GR μ ν (1 + 100 * j)) (hj2 : j ≤ 511) (hk : ∀ u v, GR u v (1 + 100 * (j + 1)) → BW room_1 mL l D (fun q => s.heap.size ≤ q) p e s m #[Value.ref b] below meth c (lw_Z below #[Value.ref b] s) 320 6150 614 [some (.ref b), some (.ref (σ 0)), some (.ref (τ 0)), some (.int (nI (4 * j)))] [] (wo shC σ cA u ++ wo shM τ cA v)) : BW room_1 mL l D (fun q => s.heap.size ≤ q) p e s m #[Value.ref b] below meth c (lw_Z below #[Value.ref b] s) 320 6150 314 [some (.ref b), some (.ref (σ 0)), some (.ref (τ 0)), some (.int (nI (4 * j)))] [] (wo shC σ cA μ ++ wo shM τ cA ν) := by
  obtain ⟨U, V, hU, hV, hUV⟩ := api_undo hG
  refine b_aload_n (pc := 314) X dL_law_314 rfl rfl ?_
  refine BW.cast (st := (([] : List Value).map (cvl σ)).reverse ++ .ref (σ 0) :: []) (ws := [] ++ (wo shC σ cA μ ++ wo shM τ cA ν)) ?_ rfl rfl (List.nil_append _)
  refine b_conI (pc := 315) (R := room_1) (k := 320) (n := 6150) (b := 0) (As := []) X ck_L_48 ⟨Nat.le_of_ble_eq_true rfl, Nat.le_of_ble_eq_true rfl⟩ rfl (by decide) rfl (Nat.le_of_ble_eq_true rfl) (Nat.le_of_ble_eq_true rfl) (Nat.le_of_ble_eq_true rfl) dL_law_315 rfl hU ?_
  intro r u hu
  refine b_aload_n (pc := 318) X dL_law_318 rfl rfl ?_
  refine BW.cast (st := (([] : List Value).map (cvl τ)).reverse ++ .ref (τ 0) :: [.int r]) (ws := wo shC σ cA u ++ (wo shM τ cA ν ++ [])) ?_ rfl rfl (by rw [List.append_nil, List.nil_append])
  refine b_conI (pc := 319) (R := room_1) (k := 320) (n := 6150) (b := 0) (As := []) X ck_L_51 ⟨Nat.le_of_ble_eq_true rfl, Nat.le_of_ble_eq_true rfl⟩ rfl (by decide) rfl (Nat.le_of_ble_eq_true rfl) (Nat.le_of_ble_eq_true rfl) (Nat.le_of_ble_eq_true rfl) dL_law_319 rfl hV ?_
  intro q v hv
  obtain ⟨hrq, hG2⟩ := hUV r u q v hu hv
  refine b_icmp_eq (pc := 322) (tgt := 614) X dL_law_322 (by decide) (fun _ => ?_) (fun h => absurd hrq h)
  exact BW.cast (hk u v (hG2.mono (by omega))) rfl rfl (by rw [List.append_nil])
set_option maxHeartbeats 4000000 in
set_option maxRecDepth 100000 in
theorem law_station {l : Launch} {cA : Nat → ClassId} {D : va_G} {p : Program} {e : Env} {s : State} {m : MethodId} {below : List Frame} {meth : Method} {c : Code} {b L j : Nat} {xs : Nat → Int32} {σ τ : Nat → Nat} {μ ν : Mem} (X : Bx mL cA D (fun q => s.heap.size ≤ q) p s m meth c) (hX : va_X b L xs s s.heap) (hbl : b < s.heap.size) (hL : L ≤ 2048) (hj : 4 * j + 4 ≤ L) (hG : GR μ ν (1 + 100 * j)) (hj2 : j ≤ 511) (hk : ∀ u v, GR u v (1 + 100 * (j + 1)) → BW room_1 mL l D (fun q => s.heap.size ≤ q) p e s m #[Value.ref b] below meth c (lw_Z below #[Value.ref b] s) 320 6150 614 [some (.ref b), some (.ref (σ 0)), some (.ref (τ 0)), some (.int (nI (4 * j)))] [] (wo shC σ cA u ++ wo shM τ cA v)) : BW room_1 mL l D (fun q => s.heap.size ≤ q) p e s m #[Value.ref b] below meth c (lw_Z below #[Value.ref b] s) 320 6150 327 [some (.ref b), some (.ref (σ 0)), some (.ref (τ 0)), some (.int (nI (4 * j)))] [] (wo shC σ cA μ ++ wo shM τ cA ν) := by
  obtain ⟨U, V, hU, hV, hUV⟩ := api_station (xs (4 * j + 1)) (xs (4 * j + 2)) hG
  refine b_aload_n (pc := 327) X dL_law_327 rfl rfl ?_
  refine b_aload_n (pc := 328) X dL_law_328 rfl rfl ?_
  refine b_iload_n (pc := 329) X dL_law_329 rfl rfl ?_
  refine b_iconst (pc := 330) (v := 1) X dL_law_330 (by decide) ?_
  refine b_iaddN (pc := 331) (a := 4 * j) (b := 1) rfl X dL_law_331 ?_
  refine b_sld (pc := 332) (j := 4 * j + 1) X hX hbl (Nat.not_le.mpr hbl) (by omega) (by omega) dL_law_332 ?_
  refine b_aload_n (pc := 333) X dL_law_333 rfl rfl ?_
  refine b_iload_n (pc := 334) X dL_law_334 rfl rfl ?_
  refine b_iconst (pc := 335) (v := 2) X dL_law_335 (by decide) ?_
  refine b_iaddN (pc := 336) (a := 4 * j) (b := 2) rfl X dL_law_336 ?_
  refine b_sld (pc := 337) (j := 4 * j + 2) X hX hbl (Nat.not_le.mpr hbl) (by omega) (by omega) dL_law_337 ?_
  refine BW.cast (st := (([.int (xs (4 * j + 1)), .int (xs (4 * j + 2))] : List Value).map (cvl σ)).reverse ++ .ref (σ 0) :: []) (ws := [] ++ (wo shC σ cA μ ++ wo shM τ cA ν)) ?_ rfl rfl (List.nil_append _)
  refine b_conI (pc := 338) (R := room_1) (k := 320) (n := 6150) (b := 0) (As := [.int (xs (4 * j + 1)), .int (xs (4 * j + 2))]) X ck_L_52 ⟨Nat.le_of_ble_eq_true rfl, Nat.le_of_ble_eq_true rfl⟩ rfl (by decide) rfl (Nat.le_of_ble_eq_true rfl) (Nat.le_of_ble_eq_true rfl) (Nat.le_of_ble_eq_true rfl) dL_law_338 rfl hU ?_
  intro r u hu
  refine b_aload_n (pc := 341) X dL_law_341 rfl rfl ?_
  refine b_aload_n (pc := 342) X dL_law_342 rfl rfl ?_
  refine b_iload_n (pc := 343) X dL_law_343 rfl rfl ?_
  refine b_iconst (pc := 344) (v := 1) X dL_law_344 (by decide) ?_
  refine b_iaddN (pc := 345) (a := 4 * j) (b := 1) rfl X dL_law_345 ?_
  refine b_sld (pc := 346) (j := 4 * j + 1) X hX hbl (Nat.not_le.mpr hbl) (by omega) (by omega) dL_law_346 ?_
  refine b_aload_n (pc := 347) X dL_law_347 rfl rfl ?_
  refine b_iload_n (pc := 348) X dL_law_348 rfl rfl ?_
  refine b_iconst (pc := 349) (v := 2) X dL_law_349 (by decide) ?_
  refine b_iaddN (pc := 350) (a := 4 * j) (b := 2) rfl X dL_law_350 ?_
  refine b_sld (pc := 351) (j := 4 * j + 2) X hX hbl (Nat.not_le.mpr hbl) (by omega) (by omega) dL_law_351 ?_
  refine BW.cast (st := (([.int (xs (4 * j + 1)), .int (xs (4 * j + 2))] : List Value).map (cvl τ)).reverse ++ .ref (τ 0) :: [.int r]) (ws := wo shC σ cA u ++ (wo shM τ cA ν ++ [])) ?_ rfl rfl (by rw [List.append_nil, List.nil_append])
  refine b_conI (pc := 352) (R := room_1) (k := 320) (n := 6150) (b := 0) (As := [.int (xs (4 * j + 1)), .int (xs (4 * j + 2))]) X ck_L_56 ⟨Nat.le_of_ble_eq_true rfl, Nat.le_of_ble_eq_true rfl⟩ rfl (by decide) rfl (Nat.le_of_ble_eq_true rfl) (Nat.le_of_ble_eq_true rfl) (Nat.le_of_ble_eq_true rfl) dL_law_352 rfl hV ?_
  intro q v hv
  obtain ⟨hrq, hG2⟩ := hUV r u q v hu hv
  refine b_icmp_eq (pc := 355) (tgt := 614) X dL_law_355 (by decide) (fun _ => ?_) (fun h => absurd hrq h)
  exact BW.cast (hk u v (hG2.mono (by omega))) rfl rfl (by rw [List.append_nil])
set_option maxHeartbeats 4000000 in
set_option maxRecDepth 100000 in
theorem law_letterOf {l : Launch} {cA : Nat → ClassId} {D : va_G} {p : Program} {e : Env} {s : State} {m : MethodId} {below : List Frame} {meth : Method} {c : Code} {b L j : Nat} {xs : Nat → Int32} {σ τ : Nat → Nat} {μ ν : Mem} (X : Bx mL cA D (fun q => s.heap.size ≤ q) p s m meth c) (hX : va_X b L xs s s.heap) (hbl : b < s.heap.size) (hL : L ≤ 2048) (hj : 4 * j + 4 ≤ L) (hG : GR μ ν (1 + 100 * j)) (hj2 : j ≤ 511) (hk : ∀ u v, GR u v (1 + 100 * (j + 1)) → BW room_1 mL l D (fun q => s.heap.size ≤ q) p e s m #[Value.ref b] below meth c (lw_Z below #[Value.ref b] s) 320 6150 614 [some (.ref b), some (.ref (σ 0)), some (.ref (τ 0)), some (.int (nI (4 * j)))] [] (wo shC σ cA u ++ wo shM τ cA v)) : BW room_1 mL l D (fun q => s.heap.size ≤ q) p e s m #[Value.ref b] below meth c (lw_Z below #[Value.ref b] s) 320 6150 360 [some (.ref b), some (.ref (σ 0)), some (.ref (τ 0)), some (.int (nI (4 * j)))] [] (wo shC σ cA μ ++ wo shM τ cA ν) := by
  obtain ⟨U, V, hU, hV, hUV⟩ := api_letterOf (xs (4 * j + 1)) (xs (4 * j + 2)) (xs (4 * j + 3)) hG
  refine b_aload_n (pc := 360) X dL_law_360 rfl rfl ?_
  refine b_aload_n (pc := 361) X dL_law_361 rfl rfl ?_
  refine b_iload_n (pc := 362) X dL_law_362 rfl rfl ?_
  refine b_iconst (pc := 363) (v := 1) X dL_law_363 (by decide) ?_
  refine b_iaddN (pc := 364) (a := 4 * j) (b := 1) rfl X dL_law_364 ?_
  refine b_sld (pc := 365) (j := 4 * j + 1) X hX hbl (Nat.not_le.mpr hbl) (by omega) (by omega) dL_law_365 ?_
  refine b_aload_n (pc := 366) X dL_law_366 rfl rfl ?_
  refine b_iload_n (pc := 367) X dL_law_367 rfl rfl ?_
  refine b_iconst (pc := 368) (v := 2) X dL_law_368 (by decide) ?_
  refine b_iaddN (pc := 369) (a := 4 * j) (b := 2) rfl X dL_law_369 ?_
  refine b_sld (pc := 370) (j := 4 * j + 2) X hX hbl (Nat.not_le.mpr hbl) (by omega) (by omega) dL_law_370 ?_
  refine b_aload_n (pc := 371) X dL_law_371 rfl rfl ?_
  refine b_iload_n (pc := 372) X dL_law_372 rfl rfl ?_
  refine b_iconst (pc := 373) (v := 3) X dL_law_373 (by decide) ?_
  refine b_iaddN (pc := 374) (a := 4 * j) (b := 3) rfl X dL_law_374 ?_
  refine b_sld (pc := 375) (j := 4 * j + 3) X hX hbl (Nat.not_le.mpr hbl) (by omega) (by omega) dL_law_375 ?_
  refine BW.cast (st := (([.int (xs (4 * j + 1)), .int (xs (4 * j + 2)), .int (xs (4 * j + 3))] : List Value).map (cvl σ)).reverse ++ .ref (σ 0) :: []) (ws := [] ++ (wo shC σ cA μ ++ wo shM τ cA ν)) ?_ rfl rfl (List.nil_append _)
  refine b_conI (pc := 376) (R := room_1) (k := 320) (n := 6150) (b := 0) (As := [.int (xs (4 * j + 1)), .int (xs (4 * j + 2)), .int (xs (4 * j + 3))]) X ck_L_57 ⟨Nat.le_of_ble_eq_true rfl, Nat.le_of_ble_eq_true rfl⟩ rfl (by decide) rfl (Nat.le_of_ble_eq_true rfl) (Nat.le_of_ble_eq_true rfl) (Nat.le_of_ble_eq_true rfl) dL_law_376 rfl hU ?_
  intro r u hu
  refine b_aload_n (pc := 379) X dL_law_379 rfl rfl ?_
  refine b_aload_n (pc := 380) X dL_law_380 rfl rfl ?_
  refine b_iload_n (pc := 381) X dL_law_381 rfl rfl ?_
  refine b_iconst (pc := 382) (v := 1) X dL_law_382 (by decide) ?_
  refine b_iaddN (pc := 383) (a := 4 * j) (b := 1) rfl X dL_law_383 ?_
  refine b_sld (pc := 384) (j := 4 * j + 1) X hX hbl (Nat.not_le.mpr hbl) (by omega) (by omega) dL_law_384 ?_
  refine b_aload_n (pc := 385) X dL_law_385 rfl rfl ?_
  refine b_iload_n (pc := 386) X dL_law_386 rfl rfl ?_
  refine b_iconst (pc := 387) (v := 2) X dL_law_387 (by decide) ?_
  refine b_iaddN (pc := 388) (a := 4 * j) (b := 2) rfl X dL_law_388 ?_
  refine b_sld (pc := 389) (j := 4 * j + 2) X hX hbl (Nat.not_le.mpr hbl) (by omega) (by omega) dL_law_389 ?_
  refine b_aload_n (pc := 390) X dL_law_390 rfl rfl ?_
  refine b_iload_n (pc := 391) X dL_law_391 rfl rfl ?_
  refine b_iconst (pc := 392) (v := 3) X dL_law_392 (by decide) ?_
  refine b_iaddN (pc := 393) (a := 4 * j) (b := 3) rfl X dL_law_393 ?_
  refine b_sld (pc := 394) (j := 4 * j + 3) X hX hbl (Nat.not_le.mpr hbl) (by omega) (by omega) dL_law_394 ?_
  refine BW.cast (st := (([.int (xs (4 * j + 1)), .int (xs (4 * j + 2)), .int (xs (4 * j + 3))] : List Value).map (cvl τ)).reverse ++ .ref (τ 0) :: [.int r]) (ws := wo shC σ cA u ++ (wo shM τ cA ν ++ [])) ?_ rfl rfl (by rw [List.append_nil, List.nil_append])
  refine b_conI (pc := 395) (R := room_1) (k := 320) (n := 6150) (b := 0) (As := [.int (xs (4 * j + 1)), .int (xs (4 * j + 2)), .int (xs (4 * j + 3))]) X ck_L_60 ⟨Nat.le_of_ble_eq_true rfl, Nat.le_of_ble_eq_true rfl⟩ rfl (by decide) rfl (Nat.le_of_ble_eq_true rfl) (Nat.le_of_ble_eq_true rfl) (Nat.le_of_ble_eq_true rfl) dL_law_395 rfl hV ?_
  intro q v hv
  obtain ⟨hrq, hG2⟩ := hUV r u q v hu hv
  refine b_icmp_eq (pc := 398) (tgt := 614) X dL_law_398 (by decide) (fun _ => ?_) (fun h => absurd hrq h)
  exact BW.cast (hk u v (hG2.mono (by omega))) rfl rfl (by rw [List.append_nil])
set_option maxHeartbeats 4000000 in
set_option maxRecDepth 100000 in
theorem law_overheard {l : Launch} {cA : Nat → ClassId} {D : va_G} {p : Program} {e : Env} {s : State} {m : MethodId} {below : List Frame} {meth : Method} {c : Code} {b L j : Nat} {xs : Nat → Int32} {σ τ : Nat → Nat} {μ ν : Mem} (X : Bx mL cA D (fun q => s.heap.size ≤ q) p s m meth c) (hX : va_X b L xs s s.heap) (hbl : b < s.heap.size) (hL : L ≤ 2048) (hj : 4 * j + 4 ≤ L) (hG : GR μ ν (1 + 100 * j)) (hj2 : j ≤ 511) (hk : ∀ u v, GR u v (1 + 100 * (j + 1)) → BW room_1 mL l D (fun q => s.heap.size ≤ q) p e s m #[Value.ref b] below meth c (lw_Z below #[Value.ref b] s) 320 6150 614 [some (.ref b), some (.ref (σ 0)), some (.ref (τ 0)), some (.int (nI (4 * j)))] [] (wo shC σ cA u ++ wo shM τ cA v)) : BW room_1 mL l D (fun q => s.heap.size ≤ q) p e s m #[Value.ref b] below meth c (lw_Z below #[Value.ref b] s) 320 6150 403 [some (.ref b), some (.ref (σ 0)), some (.ref (τ 0)), some (.int (nI (4 * j)))] [] (wo shC σ cA μ ++ wo shM τ cA ν) := by
  obtain ⟨U, V, hU, hV, hUV⟩ := api_overheard (xs (4 * j + 1)) (xs (4 * j + 2)) (xs (4 * j + 3)) hG
  refine b_aload_n (pc := 403) X dL_law_403 rfl rfl ?_
  refine b_aload_n (pc := 404) X dL_law_404 rfl rfl ?_
  refine b_iload_n (pc := 405) X dL_law_405 rfl rfl ?_
  refine b_iconst (pc := 406) (v := 1) X dL_law_406 (by decide) ?_
  refine b_iaddN (pc := 407) (a := 4 * j) (b := 1) rfl X dL_law_407 ?_
  refine b_sld (pc := 408) (j := 4 * j + 1) X hX hbl (Nat.not_le.mpr hbl) (by omega) (by omega) dL_law_408 ?_
  refine b_aload_n (pc := 409) X dL_law_409 rfl rfl ?_
  refine b_iload_n (pc := 410) X dL_law_410 rfl rfl ?_
  refine b_iconst (pc := 411) (v := 2) X dL_law_411 (by decide) ?_
  refine b_iaddN (pc := 412) (a := 4 * j) (b := 2) rfl X dL_law_412 ?_
  refine b_sld (pc := 413) (j := 4 * j + 2) X hX hbl (Nat.not_le.mpr hbl) (by omega) (by omega) dL_law_413 ?_
  refine b_aload_n (pc := 414) X dL_law_414 rfl rfl ?_
  refine b_iload_n (pc := 415) X dL_law_415 rfl rfl ?_
  refine b_iconst (pc := 416) (v := 3) X dL_law_416 (by decide) ?_
  refine b_iaddN (pc := 417) (a := 4 * j) (b := 3) rfl X dL_law_417 ?_
  refine b_sld (pc := 418) (j := 4 * j + 3) X hX hbl (Nat.not_le.mpr hbl) (by omega) (by omega) dL_law_418 ?_
  refine BW.cast (st := (([.int (xs (4 * j + 1)), .int (xs (4 * j + 2)), .int (xs (4 * j + 3))] : List Value).map (cvl σ)).reverse ++ .ref (σ 0) :: []) (ws := [] ++ (wo shC σ cA μ ++ wo shM τ cA ν)) ?_ rfl rfl (List.nil_append _)
  refine b_conI (pc := 419) (R := room_1) (k := 320) (n := 6150) (b := 0) (As := [.int (xs (4 * j + 1)), .int (xs (4 * j + 2)), .int (xs (4 * j + 3))]) X ck_L_61 ⟨Nat.le_of_ble_eq_true rfl, Nat.le_of_ble_eq_true rfl⟩ rfl (by decide) rfl (Nat.le_of_ble_eq_true rfl) (Nat.le_of_ble_eq_true rfl) (Nat.le_of_ble_eq_true rfl) dL_law_419 rfl hU ?_
  intro r u hu
  refine b_aload_n (pc := 422) X dL_law_422 rfl rfl ?_
  refine b_aload_n (pc := 423) X dL_law_423 rfl rfl ?_
  refine b_iload_n (pc := 424) X dL_law_424 rfl rfl ?_
  refine b_iconst (pc := 425) (v := 1) X dL_law_425 (by decide) ?_
  refine b_iaddN (pc := 426) (a := 4 * j) (b := 1) rfl X dL_law_426 ?_
  refine b_sld (pc := 427) (j := 4 * j + 1) X hX hbl (Nat.not_le.mpr hbl) (by omega) (by omega) dL_law_427 ?_
  refine b_aload_n (pc := 428) X dL_law_428 rfl rfl ?_
  refine b_iload_n (pc := 429) X dL_law_429 rfl rfl ?_
  refine b_iconst (pc := 430) (v := 2) X dL_law_430 (by decide) ?_
  refine b_iaddN (pc := 431) (a := 4 * j) (b := 2) rfl X dL_law_431 ?_
  refine b_sld (pc := 432) (j := 4 * j + 2) X hX hbl (Nat.not_le.mpr hbl) (by omega) (by omega) dL_law_432 ?_
  refine b_aload_n (pc := 433) X dL_law_433 rfl rfl ?_
  refine b_iload_n (pc := 434) X dL_law_434 rfl rfl ?_
  refine b_iconst (pc := 435) (v := 3) X dL_law_435 (by decide) ?_
  refine b_iaddN (pc := 436) (a := 4 * j) (b := 3) rfl X dL_law_436 ?_
  refine b_sld (pc := 437) (j := 4 * j + 3) X hX hbl (Nat.not_le.mpr hbl) (by omega) (by omega) dL_law_437 ?_
  refine BW.cast (st := (([.int (xs (4 * j + 1)), .int (xs (4 * j + 2)), .int (xs (4 * j + 3))] : List Value).map (cvl τ)).reverse ++ .ref (τ 0) :: [.int r]) (ws := wo shC σ cA u ++ (wo shM τ cA ν ++ [])) ?_ rfl rfl (by rw [List.append_nil, List.nil_append])
  refine b_conI (pc := 438) (R := room_1) (k := 320) (n := 6150) (b := 0) (As := [.int (xs (4 * j + 1)), .int (xs (4 * j + 2)), .int (xs (4 * j + 3))]) X ck_L_64 ⟨Nat.le_of_ble_eq_true rfl, Nat.le_of_ble_eq_true rfl⟩ rfl (by decide) rfl (Nat.le_of_ble_eq_true rfl) (Nat.le_of_ble_eq_true rfl) (Nat.le_of_ble_eq_true rfl) dL_law_438 rfl hV ?_
  intro q v hv
  obtain ⟨hrq, hG2⟩ := hUV r u q v hu hv
  refine b_icmp_eq (pc := 441) (tgt := 614) X dL_law_441 (by decide) (fun _ => ?_) (fun h => absurd hrq h)
  exact BW.cast (hk u v (hG2.mono (by omega))) rfl rfl (by rw [List.append_nil])
set_option maxHeartbeats 4000000 in
set_option maxRecDepth 100000 in
theorem law_pair {l : Launch} {cA : Nat → ClassId} {D : va_G} {p : Program} {e : Env} {s : State} {m : MethodId} {below : List Frame} {meth : Method} {c : Code} {b L j : Nat} {xs : Nat → Int32} {σ τ : Nat → Nat} {μ ν : Mem} (X : Bx mL cA D (fun q => s.heap.size ≤ q) p s m meth c) (hX : va_X b L xs s s.heap) (hbl : b < s.heap.size) (hL : L ≤ 2048) (hj : 4 * j + 4 ≤ L) (hG : GR μ ν (1 + 100 * j)) (hj2 : j ≤ 511) (hk : ∀ u v, GR u v (1 + 100 * (j + 1)) → BW room_1 mL l D (fun q => s.heap.size ≤ q) p e s m #[Value.ref b] below meth c (lw_Z below #[Value.ref b] s) 320 6150 614 [some (.ref b), some (.ref (σ 0)), some (.ref (τ 0)), some (.int (nI (4 * j)))] [] (wo shC σ cA u ++ wo shM τ cA v)) : BW room_1 mL l D (fun q => s.heap.size ≤ q) p e s m #[Value.ref b] below meth c (lw_Z below #[Value.ref b] s) 320 6150 446 [some (.ref b), some (.ref (σ 0)), some (.ref (τ 0)), some (.int (nI (4 * j)))] [] (wo shC σ cA μ ++ wo shM τ cA ν) := by
  obtain ⟨U, V, hU, hV, hUV⟩ := api_pair (xs (4 * j + 1)) (xs (4 * j + 2)) hG
  refine b_aload_n (pc := 446) X dL_law_446 rfl rfl ?_
  refine b_aload_n (pc := 447) X dL_law_447 rfl rfl ?_
  refine b_iload_n (pc := 448) X dL_law_448 rfl rfl ?_
  refine b_iconst (pc := 449) (v := 1) X dL_law_449 (by decide) ?_
  refine b_iaddN (pc := 450) (a := 4 * j) (b := 1) rfl X dL_law_450 ?_
  refine b_sld (pc := 451) (j := 4 * j + 1) X hX hbl (Nat.not_le.mpr hbl) (by omega) (by omega) dL_law_451 ?_
  refine b_aload_n (pc := 452) X dL_law_452 rfl rfl ?_
  refine b_iload_n (pc := 453) X dL_law_453 rfl rfl ?_
  refine b_iconst (pc := 454) (v := 2) X dL_law_454 (by decide) ?_
  refine b_iaddN (pc := 455) (a := 4 * j) (b := 2) rfl X dL_law_455 ?_
  refine b_sld (pc := 456) (j := 4 * j + 2) X hX hbl (Nat.not_le.mpr hbl) (by omega) (by omega) dL_law_456 ?_
  refine BW.cast (st := (([.int (xs (4 * j + 1)), .int (xs (4 * j + 2))] : List Value).map (cvl σ)).reverse ++ .ref (σ 0) :: []) (ws := [] ++ (wo shC σ cA μ ++ wo shM τ cA ν)) ?_ rfl rfl (List.nil_append _)
  refine b_conI (pc := 457) (R := room_1) (k := 320) (n := 6150) (b := 0) (As := [.int (xs (4 * j + 1)), .int (xs (4 * j + 2))]) X ck_L_65 ⟨Nat.le_of_ble_eq_true rfl, Nat.le_of_ble_eq_true rfl⟩ rfl (by decide) rfl (Nat.le_of_ble_eq_true rfl) (Nat.le_of_ble_eq_true rfl) (Nat.le_of_ble_eq_true rfl) dL_law_457 rfl hU ?_
  intro r u hu
  refine b_aload_n (pc := 460) X dL_law_460 rfl rfl ?_
  refine b_aload_n (pc := 461) X dL_law_461 rfl rfl ?_
  refine b_iload_n (pc := 462) X dL_law_462 rfl rfl ?_
  refine b_iconst (pc := 463) (v := 1) X dL_law_463 (by decide) ?_
  refine b_iaddN (pc := 464) (a := 4 * j) (b := 1) rfl X dL_law_464 ?_
  refine b_sld (pc := 465) (j := 4 * j + 1) X hX hbl (Nat.not_le.mpr hbl) (by omega) (by omega) dL_law_465 ?_
  refine b_aload_n (pc := 466) X dL_law_466 rfl rfl ?_
  refine b_iload_n (pc := 467) X dL_law_467 rfl rfl ?_
  refine b_iconst (pc := 468) (v := 2) X dL_law_468 (by decide) ?_
  refine b_iaddN (pc := 469) (a := 4 * j) (b := 2) rfl X dL_law_469 ?_
  refine b_sld (pc := 470) (j := 4 * j + 2) X hX hbl (Nat.not_le.mpr hbl) (by omega) (by omega) dL_law_470 ?_
  refine BW.cast (st := (([.int (xs (4 * j + 1)), .int (xs (4 * j + 2))] : List Value).map (cvl τ)).reverse ++ .ref (τ 0) :: [.int r]) (ws := wo shC σ cA u ++ (wo shM τ cA ν ++ [])) ?_ rfl rfl (by rw [List.append_nil, List.nil_append])
  refine b_conI (pc := 471) (R := room_1) (k := 320) (n := 6150) (b := 0) (As := [.int (xs (4 * j + 1)), .int (xs (4 * j + 2))]) X ck_L_68 ⟨Nat.le_of_ble_eq_true rfl, Nat.le_of_ble_eq_true rfl⟩ rfl (by decide) rfl (Nat.le_of_ble_eq_true rfl) (Nat.le_of_ble_eq_true rfl) (Nat.le_of_ble_eq_true rfl) dL_law_471 rfl hV ?_
  intro q v hv
  obtain ⟨hrq, hG2⟩ := hUV r u q v hu hv
  refine b_icmp_eq (pc := 474) (tgt := 614) X dL_law_474 (by decide) (fun _ => ?_) (fun h => absurd hrq h)
  exact BW.cast (hk u v (hG2.mono (by omega))) rfl rfl (by rw [List.append_nil])
set_option maxHeartbeats 4000000 in
set_option maxRecDepth 100000 in
theorem law_draw {l : Launch} {cA : Nat → ClassId} {D : va_G} {p : Program} {e : Env} {s : State} {m : MethodId} {below : List Frame} {meth : Method} {c : Code} {b L j : Nat} {xs : Nat → Int32} {σ τ : Nat → Nat} {μ ν : Mem} (X : Bx mL cA D (fun q => s.heap.size ≤ q) p s m meth c) (hX : va_X b L xs s s.heap) (hbl : b < s.heap.size) (hL : L ≤ 2048) (hj : 4 * j + 4 ≤ L) (hG : GR μ ν (1 + 100 * j)) (hj2 : j ≤ 511) (hk : ∀ u v, GR u v (1 + 100 * (j + 1)) → BW room_1 mL l D (fun q => s.heap.size ≤ q) p e s m #[Value.ref b] below meth c (lw_Z below #[Value.ref b] s) 320 6150 614 [some (.ref b), some (.ref (σ 0)), some (.ref (τ 0)), some (.int (nI (4 * j)))] [] (wo shC σ cA u ++ wo shM τ cA v)) : BW room_1 mL l D (fun q => s.heap.size ≤ q) p e s m #[Value.ref b] below meth c (lw_Z below #[Value.ref b] s) 320 6150 479 [some (.ref b), some (.ref (σ 0)), some (.ref (τ 0)), some (.int (nI (4 * j)))] [] (wo shC σ cA μ ++ wo shM τ cA ν) := by
  obtain ⟨U, V, hU, hV, hUV⟩ := api_draw (xs (4 * j + 1)) (xs (4 * j + 2)) hG
  refine b_aload_n (pc := 479) X dL_law_479 rfl rfl ?_
  refine b_aload_n (pc := 480) X dL_law_480 rfl rfl ?_
  refine b_iload_n (pc := 481) X dL_law_481 rfl rfl ?_
  refine b_iconst (pc := 482) (v := 1) X dL_law_482 (by decide) ?_
  refine b_iaddN (pc := 483) (a := 4 * j) (b := 1) rfl X dL_law_483 ?_
  refine b_sld (pc := 484) (j := 4 * j + 1) X hX hbl (Nat.not_le.mpr hbl) (by omega) (by omega) dL_law_484 ?_
  refine b_aload_n (pc := 485) X dL_law_485 rfl rfl ?_
  refine b_iload_n (pc := 486) X dL_law_486 rfl rfl ?_
  refine b_iconst (pc := 487) (v := 2) X dL_law_487 (by decide) ?_
  refine b_iaddN (pc := 488) (a := 4 * j) (b := 2) rfl X dL_law_488 ?_
  refine b_sld (pc := 489) (j := 4 * j + 2) X hX hbl (Nat.not_le.mpr hbl) (by omega) (by omega) dL_law_489 ?_
  refine BW.cast (st := (([.int (xs (4 * j + 1)), .int (xs (4 * j + 2))] : List Value).map (cvl σ)).reverse ++ .ref (σ 0) :: []) (ws := [] ++ (wo shC σ cA μ ++ wo shM τ cA ν)) ?_ rfl rfl (List.nil_append _)
  refine b_conI (pc := 490) (R := room_1) (k := 320) (n := 6150) (b := 0) (As := [.int (xs (4 * j + 1)), .int (xs (4 * j + 2))]) X ck_L_69 ⟨Nat.le_of_ble_eq_true rfl, Nat.le_of_ble_eq_true rfl⟩ rfl (by decide) rfl (Nat.le_of_ble_eq_true rfl) (Nat.le_of_ble_eq_true rfl) (Nat.le_of_ble_eq_true rfl) dL_law_490 rfl hU ?_
  intro r u hu
  refine b_aload_n (pc := 493) X dL_law_493 rfl rfl ?_
  refine b_aload_n (pc := 494) X dL_law_494 rfl rfl ?_
  refine b_iload_n (pc := 495) X dL_law_495 rfl rfl ?_
  refine b_iconst (pc := 496) (v := 1) X dL_law_496 (by decide) ?_
  refine b_iaddN (pc := 497) (a := 4 * j) (b := 1) rfl X dL_law_497 ?_
  refine b_sld (pc := 498) (j := 4 * j + 1) X hX hbl (Nat.not_le.mpr hbl) (by omega) (by omega) dL_law_498 ?_
  refine b_aload_n (pc := 499) X dL_law_499 rfl rfl ?_
  refine b_iload_n (pc := 500) X dL_law_500 rfl rfl ?_
  refine b_iconst (pc := 501) (v := 2) X dL_law_501 (by decide) ?_
  refine b_iaddN (pc := 502) (a := 4 * j) (b := 2) rfl X dL_law_502 ?_
  refine b_sld (pc := 503) (j := 4 * j + 2) X hX hbl (Nat.not_le.mpr hbl) (by omega) (by omega) dL_law_503 ?_
  refine BW.cast (st := (([.int (xs (4 * j + 1)), .int (xs (4 * j + 2))] : List Value).map (cvl τ)).reverse ++ .ref (τ 0) :: [.int r]) (ws := wo shC σ cA u ++ (wo shM τ cA ν ++ [])) ?_ rfl rfl (by rw [List.append_nil, List.nil_append])
  refine b_conI (pc := 504) (R := room_1) (k := 320) (n := 6150) (b := 0) (As := [.int (xs (4 * j + 1)), .int (xs (4 * j + 2))]) X ck_L_72 ⟨Nat.le_of_ble_eq_true rfl, Nat.le_of_ble_eq_true rfl⟩ rfl (by decide) rfl (Nat.le_of_ble_eq_true rfl) (Nat.le_of_ble_eq_true rfl) (Nat.le_of_ble_eq_true rfl) dL_law_504 rfl hV ?_
  intro q v hv
  obtain ⟨hrq, hG2⟩ := hUV r u q v hu hv
  refine b_icmp_eq (pc := 507) (tgt := 614) X dL_law_507 (by decide) (fun _ => ?_) (fun h => absurd hrq h)
  exact BW.cast (hk u v (hG2.mono (by omega))) rfl rfl (by rw [List.append_nil])
set_option maxHeartbeats 4000000 in
set_option maxRecDepth 100000 in
theorem law_took {l : Launch} {cA : Nat → ClassId} {D : va_G} {p : Program} {e : Env} {s : State} {m : MethodId} {below : List Frame} {meth : Method} {c : Code} {b L j : Nat} {xs : Nat → Int32} {σ τ : Nat → Nat} {μ ν : Mem} (X : Bx mL cA D (fun q => s.heap.size ≤ q) p s m meth c) (hX : va_X b L xs s s.heap) (hbl : b < s.heap.size) (hL : L ≤ 2048) (hj : 4 * j + 4 ≤ L) (hG : GR μ ν (1 + 100 * j)) (hj2 : j ≤ 511) (hk : ∀ u v, GR u v (1 + 100 * (j + 1)) → BW room_1 mL l D (fun q => s.heap.size ≤ q) p e s m #[Value.ref b] below meth c (lw_Z below #[Value.ref b] s) 320 6150 614 [some (.ref b), some (.ref (σ 0)), some (.ref (τ 0)), some (.int (nI (4 * j)))] [] (wo shC σ cA u ++ wo shM τ cA v)) : BW room_1 mL l D (fun q => s.heap.size ≤ q) p e s m #[Value.ref b] below meth c (lw_Z below #[Value.ref b] s) 320 6150 512 [some (.ref b), some (.ref (σ 0)), some (.ref (τ 0)), some (.int (nI (4 * j)))] [] (wo shC σ cA μ ++ wo shM τ cA ν) := by
  obtain ⟨U, V, hU, hV, hUV⟩ := api_took (xs (4 * j + 1)) (xs (4 * j + 2)) hG
  refine b_aload_n (pc := 512) X dL_law_512 rfl rfl ?_
  refine b_aload_n (pc := 513) X dL_law_513 rfl rfl ?_
  refine b_iload_n (pc := 514) X dL_law_514 rfl rfl ?_
  refine b_iconst (pc := 515) (v := 1) X dL_law_515 (by decide) ?_
  refine b_iaddN (pc := 516) (a := 4 * j) (b := 1) rfl X dL_law_516 ?_
  refine b_sld (pc := 517) (j := 4 * j + 1) X hX hbl (Nat.not_le.mpr hbl) (by omega) (by omega) dL_law_517 ?_
  refine b_aload_n (pc := 518) X dL_law_518 rfl rfl ?_
  refine b_iload_n (pc := 519) X dL_law_519 rfl rfl ?_
  refine b_iconst (pc := 520) (v := 2) X dL_law_520 (by decide) ?_
  refine b_iaddN (pc := 521) (a := 4 * j) (b := 2) rfl X dL_law_521 ?_
  refine b_sld (pc := 522) (j := 4 * j + 2) X hX hbl (Nat.not_le.mpr hbl) (by omega) (by omega) dL_law_522 ?_
  refine BW.cast (st := (([.int (xs (4 * j + 1)), .int (xs (4 * j + 2))] : List Value).map (cvl σ)).reverse ++ .ref (σ 0) :: []) (ws := [] ++ (wo shC σ cA μ ++ wo shM τ cA ν)) ?_ rfl rfl (List.nil_append _)
  refine b_conI (pc := 523) (R := room_1) (k := 320) (n := 6150) (b := 0) (As := [.int (xs (4 * j + 1)), .int (xs (4 * j + 2))]) X ck_L_73 ⟨Nat.le_of_ble_eq_true rfl, Nat.le_of_ble_eq_true rfl⟩ rfl (by decide) rfl (Nat.le_of_ble_eq_true rfl) (Nat.le_of_ble_eq_true rfl) (Nat.le_of_ble_eq_true rfl) dL_law_523 rfl hU ?_
  intro r u hu
  refine b_aload_n (pc := 526) X dL_law_526 rfl rfl ?_
  refine b_aload_n (pc := 527) X dL_law_527 rfl rfl ?_
  refine b_iload_n (pc := 528) X dL_law_528 rfl rfl ?_
  refine b_iconst (pc := 529) (v := 1) X dL_law_529 (by decide) ?_
  refine b_iaddN (pc := 530) (a := 4 * j) (b := 1) rfl X dL_law_530 ?_
  refine b_sld (pc := 531) (j := 4 * j + 1) X hX hbl (Nat.not_le.mpr hbl) (by omega) (by omega) dL_law_531 ?_
  refine b_aload_n (pc := 532) X dL_law_532 rfl rfl ?_
  refine b_iload_n (pc := 533) X dL_law_533 rfl rfl ?_
  refine b_iconst (pc := 534) (v := 2) X dL_law_534 (by decide) ?_
  refine b_iaddN (pc := 535) (a := 4 * j) (b := 2) rfl X dL_law_535 ?_
  refine b_sld (pc := 536) (j := 4 * j + 2) X hX hbl (Nat.not_le.mpr hbl) (by omega) (by omega) dL_law_536 ?_
  refine BW.cast (st := (([.int (xs (4 * j + 1)), .int (xs (4 * j + 2))] : List Value).map (cvl τ)).reverse ++ .ref (τ 0) :: [.int r]) (ws := wo shC σ cA u ++ (wo shM τ cA ν ++ [])) ?_ rfl rfl (by rw [List.append_nil, List.nil_append])
  refine b_conI (pc := 537) (R := room_1) (k := 320) (n := 6150) (b := 0) (As := [.int (xs (4 * j + 1)), .int (xs (4 * j + 2))]) X ck_L_76 ⟨Nat.le_of_ble_eq_true rfl, Nat.le_of_ble_eq_true rfl⟩ rfl (by decide) rfl (Nat.le_of_ble_eq_true rfl) (Nat.le_of_ble_eq_true rfl) (Nat.le_of_ble_eq_true rfl) dL_law_537 rfl hV ?_
  intro q v hv
  obtain ⟨hrq, hG2⟩ := hUV r u q v hu hv
  refine b_icmp_eq (pc := 540) (tgt := 614) X dL_law_540 (by decide) (fun _ => ?_) (fun h => absurd hrq h)
  exact BW.cast (hk u v (hG2.mono (by omega))) rfl rfl (by rw [List.append_nil])
set_option maxHeartbeats 4000000 in
set_option maxRecDepth 100000 in
theorem law_ahead {l : Launch} {cA : Nat → ClassId} {D : va_G} {p : Program} {e : Env} {s : State} {m : MethodId} {below : List Frame} {meth : Method} {c : Code} {b L j : Nat} {xs : Nat → Int32} {σ τ : Nat → Nat} {μ ν : Mem} (X : Bx mL cA D (fun q => s.heap.size ≤ q) p s m meth c) (hX : va_X b L xs s s.heap) (hbl : b < s.heap.size) (hL : L ≤ 2048) (hj : 4 * j + 4 ≤ L) (hG : GR μ ν (1 + 100 * j)) (hj2 : j ≤ 511) (hk : ∀ u v, GR u v (1 + 100 * (j + 1)) → BW room_1 mL l D (fun q => s.heap.size ≤ q) p e s m #[Value.ref b] below meth c (lw_Z below #[Value.ref b] s) 320 6150 614 [some (.ref b), some (.ref (σ 0)), some (.ref (τ 0)), some (.int (nI (4 * j)))] [] (wo shC σ cA u ++ wo shM τ cA v)) : BW room_1 mL l D (fun q => s.heap.size ≤ q) p e s m #[Value.ref b] below meth c (lw_Z below #[Value.ref b] s) 320 6150 545 [some (.ref b), some (.ref (σ 0)), some (.ref (τ 0)), some (.int (nI (4 * j)))] [] (wo shC σ cA μ ++ wo shM τ cA ν) := by
  obtain ⟨U, V, hU, hV, hUV⟩ := api_ahead (xs (4 * j + 1)) (xs (4 * j + 2)) hG (by omega)
  refine b_aload_n (pc := 545) X dL_law_545 rfl rfl ?_
  refine b_aload_n (pc := 546) X dL_law_546 rfl rfl ?_
  refine b_iload_n (pc := 547) X dL_law_547 rfl rfl ?_
  refine b_iconst (pc := 548) (v := 1) X dL_law_548 (by decide) ?_
  refine b_iaddN (pc := 549) (a := 4 * j) (b := 1) rfl X dL_law_549 ?_
  refine b_sld (pc := 550) (j := 4 * j + 1) X hX hbl (Nat.not_le.mpr hbl) (by omega) (by omega) dL_law_550 ?_
  refine b_aload_n (pc := 551) X dL_law_551 rfl rfl ?_
  refine b_iload_n (pc := 552) X dL_law_552 rfl rfl ?_
  refine b_iconst (pc := 553) (v := 2) X dL_law_553 (by decide) ?_
  refine b_iaddN (pc := 554) (a := 4 * j) (b := 2) rfl X dL_law_554 ?_
  refine b_sld (pc := 555) (j := 4 * j + 2) X hX hbl (Nat.not_le.mpr hbl) (by omega) (by omega) dL_law_555 ?_
  refine BW.cast (st := (([.int (xs (4 * j + 1)), .int (xs (4 * j + 2))] : List Value).map (cvl σ)).reverse ++ .ref (σ 0) :: []) (ws := [] ++ (wo shC σ cA μ ++ wo shM τ cA ν)) ?_ rfl rfl (List.nil_append _)
  refine b_conI (pc := 556) (R := room_1) (k := 320) (n := 6150) (b := 0) (As := [.int (xs (4 * j + 1)), .int (xs (4 * j + 2))]) X ck_L_77 ⟨Nat.le_of_ble_eq_true rfl, Nat.le_of_ble_eq_true rfl⟩ rfl (by decide) rfl (Nat.le_of_ble_eq_true rfl) (Nat.le_of_ble_eq_true rfl) (Nat.le_of_ble_eq_true rfl) dL_law_556 rfl hU ?_
  intro r u hu
  refine b_aload_n (pc := 559) X dL_law_559 rfl rfl ?_
  refine b_aload_n (pc := 560) X dL_law_560 rfl rfl ?_
  refine b_iload_n (pc := 561) X dL_law_561 rfl rfl ?_
  refine b_iconst (pc := 562) (v := 1) X dL_law_562 (by decide) ?_
  refine b_iaddN (pc := 563) (a := 4 * j) (b := 1) rfl X dL_law_563 ?_
  refine b_sld (pc := 564) (j := 4 * j + 1) X hX hbl (Nat.not_le.mpr hbl) (by omega) (by omega) dL_law_564 ?_
  refine b_aload_n (pc := 565) X dL_law_565 rfl rfl ?_
  refine b_iload_n (pc := 566) X dL_law_566 rfl rfl ?_
  refine b_iconst (pc := 567) (v := 2) X dL_law_567 (by decide) ?_
  refine b_iaddN (pc := 568) (a := 4 * j) (b := 2) rfl X dL_law_568 ?_
  refine b_sld (pc := 569) (j := 4 * j + 2) X hX hbl (Nat.not_le.mpr hbl) (by omega) (by omega) dL_law_569 ?_
  refine BW.cast (st := (([.int (xs (4 * j + 1)), .int (xs (4 * j + 2))] : List Value).map (cvl τ)).reverse ++ .ref (τ 0) :: [.int r]) (ws := wo shC σ cA u ++ (wo shM τ cA ν ++ [])) ?_ rfl rfl (by rw [List.append_nil, List.nil_append])
  refine b_conI (pc := 570) (R := room_1) (k := 320) (n := 6150) (b := 0) (As := [.int (xs (4 * j + 1)), .int (xs (4 * j + 2))]) X ck_L_80 ⟨Nat.le_of_ble_eq_true rfl, Nat.le_of_ble_eq_true rfl⟩ rfl (by decide) rfl (Nat.le_of_ble_eq_true rfl) (Nat.le_of_ble_eq_true rfl) (Nat.le_of_ble_eq_true rfl) dL_law_570 rfl hV ?_
  intro q v hv
  obtain ⟨hrq, hG2⟩ := hUV r u q v hu hv
  refine b_icmp_eq (pc := 573) (tgt := 614) X dL_law_573 (by decide) (fun _ => ?_) (fun h => absurd hrq h)
  exact BW.cast (hk u v (hG2.mono (by omega))) rfl rfl (by rw [List.append_nil])
set_option maxHeartbeats 4000000 in
set_option maxRecDepth 100000 in
theorem law_soon {l : Launch} {cA : Nat → ClassId} {D : va_G} {p : Program} {e : Env} {s : State} {m : MethodId} {below : List Frame} {meth : Method} {c : Code} {b L j : Nat} {xs : Nat → Int32} {σ τ : Nat → Nat} {μ ν : Mem} (X : Bx mL cA D (fun q => s.heap.size ≤ q) p s m meth c) (hX : va_X b L xs s s.heap) (hbl : b < s.heap.size) (hL : L ≤ 2048) (hj : 4 * j + 4 ≤ L) (hG : GR μ ν (1 + 100 * j)) (hj2 : j ≤ 511) (hk : ∀ u v, GR u v (1 + 100 * (j + 1)) → BW room_1 mL l D (fun q => s.heap.size ≤ q) p e s m #[Value.ref b] below meth c (lw_Z below #[Value.ref b] s) 320 6150 614 [some (.ref b), some (.ref (σ 0)), some (.ref (τ 0)), some (.int (nI (4 * j)))] [] (wo shC σ cA u ++ wo shM τ cA v)) : BW room_1 mL l D (fun q => s.heap.size ≤ q) p e s m #[Value.ref b] below meth c (lw_Z below #[Value.ref b] s) 320 6150 578 [some (.ref b), some (.ref (σ 0)), some (.ref (τ 0)), some (.int (nI (4 * j)))] [] (wo shC σ cA μ ++ wo shM τ cA ν) := by
  obtain ⟨U, V, hU, hV, hUV⟩ := api_soon hG (by omega)
  refine b_aload_n (pc := 578) X dL_law_578 rfl rfl ?_
  refine BW.cast (st := (([] : List Value).map (cvl σ)).reverse ++ .ref (σ 0) :: []) (ws := [] ++ (wo shC σ cA μ ++ wo shM τ cA ν)) ?_ rfl rfl (List.nil_append _)
  refine b_conI (pc := 579) (R := room_1) (k := 320) (n := 6150) (b := 0) (As := []) X ck_L_81 ⟨Nat.le_of_ble_eq_true rfl, Nat.le_of_ble_eq_true rfl⟩ rfl (by decide) rfl (Nat.le_of_ble_eq_true rfl) (Nat.le_of_ble_eq_true rfl) (Nat.le_of_ble_eq_true rfl) dL_law_579 rfl hU ?_
  intro r u hu
  refine b_aload_n (pc := 582) X dL_law_582 rfl rfl ?_
  refine BW.cast (st := (([] : List Value).map (cvl τ)).reverse ++ .ref (τ 0) :: [.int r]) (ws := wo shC σ cA u ++ (wo shM τ cA ν ++ [])) ?_ rfl rfl (by rw [List.append_nil, List.nil_append])
  refine b_conI (pc := 583) (R := room_1) (k := 320) (n := 6150) (b := 0) (As := []) X ck_L_84 ⟨Nat.le_of_ble_eq_true rfl, Nat.le_of_ble_eq_true rfl⟩ rfl (by decide) rfl (Nat.le_of_ble_eq_true rfl) (Nat.le_of_ble_eq_true rfl) (Nat.le_of_ble_eq_true rfl) dL_law_583 rfl hV ?_
  intro q v hv
  obtain ⟨hrq, hG2⟩ := hUV r u q v hu hv
  refine b_icmp_eq (pc := 586) (tgt := 614) X dL_law_586 (by decide) (fun _ => ?_) (fun h => absurd hrq h)
  exact BW.cast (hk u v (hG2.mono (by omega))) rfl rfl (by rw [List.append_nil])
set_option maxHeartbeats 4000000 in
set_option maxRecDepth 100000 in
theorem law_count {l : Launch} {cA : Nat → ClassId} {D : va_G} {p : Program} {e : Env} {s : State} {m : MethodId} {below : List Frame} {meth : Method} {c : Code} {b L j : Nat} {xs : Nat → Int32} {σ τ : Nat → Nat} {μ ν : Mem} (X : Bx mL cA D (fun q => s.heap.size ≤ q) p s m meth c) (hX : va_X b L xs s s.heap) (hbl : b < s.heap.size) (hL : L ≤ 2048) (hj : 4 * j + 4 ≤ L) (hG : GR μ ν (1 + 100 * j)) (hj2 : j ≤ 511) (hk : ∀ u v, GR u v (1 + 100 * (j + 1)) → BW room_1 mL l D (fun q => s.heap.size ≤ q) p e s m #[Value.ref b] below meth c (lw_Z below #[Value.ref b] s) 320 6150 614 [some (.ref b), some (.ref (σ 0)), some (.ref (τ 0)), some (.int (nI (4 * j)))] [] (wo shC σ cA u ++ wo shM τ cA v)) : BW room_1 mL l D (fun q => s.heap.size ≤ q) p e s m #[Value.ref b] below meth c (lw_Z below #[Value.ref b] s) 320 6150 591 [some (.ref b), some (.ref (σ 0)), some (.ref (τ 0)), some (.int (nI (4 * j)))] [] (wo shC σ cA μ ++ wo shM τ cA ν) := by
  obtain ⟨U, V, hU, hV, hUV⟩ := api_count (xs (4 * j + 1)) hG
  refine b_aload_n (pc := 591) X dL_law_591 rfl rfl ?_
  refine b_aload_n (pc := 592) X dL_law_592 rfl rfl ?_
  refine b_iload_n (pc := 593) X dL_law_593 rfl rfl ?_
  refine b_iconst (pc := 594) (v := 1) X dL_law_594 (by decide) ?_
  refine b_iaddN (pc := 595) (a := 4 * j) (b := 1) rfl X dL_law_595 ?_
  refine b_sld (pc := 596) (j := 4 * j + 1) X hX hbl (Nat.not_le.mpr hbl) (by omega) (by omega) dL_law_596 ?_
  refine BW.cast (st := (([.int (xs (4 * j + 1))] : List Value).map (cvl σ)).reverse ++ .ref (σ 0) :: []) (ws := [] ++ (wo shC σ cA μ ++ wo shM τ cA ν)) ?_ rfl rfl (List.nil_append _)
  refine b_conI (pc := 597) (R := room_1) (k := 320) (n := 6150) (b := 0) (As := [.int (xs (4 * j + 1))]) X ck_L_85 ⟨Nat.le_of_ble_eq_true rfl, Nat.le_of_ble_eq_true rfl⟩ rfl (by decide) rfl (Nat.le_of_ble_eq_true rfl) (Nat.le_of_ble_eq_true rfl) (Nat.le_of_ble_eq_true rfl) dL_law_597 rfl hU ?_
  intro r u hu
  refine b_aload_n (pc := 600) X dL_law_600 rfl rfl ?_
  refine b_aload_n (pc := 601) X dL_law_601 rfl rfl ?_
  refine b_iload_n (pc := 602) X dL_law_602 rfl rfl ?_
  refine b_iconst (pc := 603) (v := 1) X dL_law_603 (by decide) ?_
  refine b_iaddN (pc := 604) (a := 4 * j) (b := 1) rfl X dL_law_604 ?_
  refine b_sld (pc := 605) (j := 4 * j + 1) X hX hbl (Nat.not_le.mpr hbl) (by omega) (by omega) dL_law_605 ?_
  refine BW.cast (st := (([.int (xs (4 * j + 1))] : List Value).map (cvl τ)).reverse ++ .ref (τ 0) :: [.int r]) (ws := wo shC σ cA u ++ (wo shM τ cA ν ++ [])) ?_ rfl rfl (by rw [List.append_nil, List.nil_append])
  refine b_conI (pc := 606) (R := room_1) (k := 320) (n := 6150) (b := 0) (As := [.int (xs (4 * j + 1))]) X ck_L_88 ⟨Nat.le_of_ble_eq_true rfl, Nat.le_of_ble_eq_true rfl⟩ rfl (by decide) rfl (Nat.le_of_ble_eq_true rfl) (Nat.le_of_ble_eq_true rfl) (Nat.le_of_ble_eq_true rfl) dL_law_606 rfl hV ?_
  intro q v hv
  obtain ⟨hrq, hG2⟩ := hUV r u q v hu hv
  refine b_icmp_eq (pc := 609) (tgt := 614) X dL_law_609 (by decide) (fun _ => ?_) (fun h => absurd hrq h)
  exact BW.cast (hk u v (hG2.mono (by omega))) rfl rfl (by rw [List.append_nil])
set_option maxHeartbeats 4000000 in
set_option maxRecDepth 100000 in
theorem law_loop {l : Launch} {cA : Nat → ClassId} {D : va_G} {p : Program} {e : Env} {s : State} {m : MethodId} {below : List Frame} {meth : Method} {c : Code} {b L : Nat} {xs : Nat → Int32} {σ τ : Nat → Nat} (X : Bx mL cA D (fun q => s.heap.size ≤ q) p s m meth c) (hX : va_X b L xs s s.heap) (hbl : b < s.heap.size) (hL : L ≤ 2048) : ∀ r j : Nat, L < 4 * j + 4 * r + 4 → j ≤ 512 → ∀ μ ν : Mem, GR μ ν (1 + 100 * j) → BW room_1 mL l D (fun q => s.heap.size ≤ q) p e s m #[Value.ref b] below meth c (lw_Z below #[Value.ref b] s) 320 6150 18 [some (.ref b), some (.ref (σ 0)), some (.ref (τ 0)), some (.int (nI (4 * j)))] [] (wo shC σ cA μ ++ wo shM τ cA ν) := by
  intro r
  induction r with
  | zero =>
    intro j hr hj μ ν hG
    refine b_iload_n (pc := 18) X dL_law_18 rfl rfl ?_
    refine b_aload_n (pc := 19) X dL_law_19 rfl rfl ?_
    refine b_slen (pc := 20) X hX hbl (Nat.not_le.mpr hbl) dL_law_20 ?_
    refine b_iconst (pc := 21) (v := 4) X dL_law_21 (by decide) ?_
    refine b_isub (pc := 22) X dL_law_22 ?_
    refine b_icmp_gt (pc := 23) (tgt := 620) X dL_law_23 (by decide) (fun _ => ?_) (fun h => absurd ((sub4 hL (by omega)).mpr (by omega)) h)
    refine b_iconst (pc := 620) (v := 1) X dL_law_620 (by decide) ?_
    exact b_lret (pc := 621) X (Nat.le_of_ble_eq_true rfl) (Nat.le_of_ble_eq_true rfl) dL_law_621
  | succ r ih =>
    intro j hr hj μ ν hG
    refine b_iload_n (pc := 18) X dL_law_18 rfl rfl ?_
    refine b_aload_n (pc := 19) X dL_law_19 rfl rfl ?_
    refine b_slen (pc := 20) X hX hbl (Nat.not_le.mpr hbl) dL_law_20 ?_
    refine b_iconst (pc := 21) (v := 4) X dL_law_21 (by decide) ?_
    refine b_isub (pc := 22) X dL_law_22 ?_
    refine b_icmp_gt (pc := 23) (tgt := 620) X dL_law_23 (by decide) (fun _ => ?_) (fun h => ?_)
    · refine b_iconst (pc := 620) (v := 1) X dL_law_620 (by decide) ?_
      exact b_lret (pc := 621) X (Nat.le_of_ble_eq_true rfl) (Nat.le_of_ble_eq_true rfl) dL_law_621
    have hb4 : 4 * j + 4 ≤ L := Nat.not_lt.mp (fun q => h ((sub4 hL (by omega)).mpr q))
    have hj2 : j ≤ 511 := by omega
    have hk : ∀ u v, GR u v (1 + 100 * (j + 1)) → BW room_1 mL l D (fun q => s.heap.size ≤ q) p e s m #[Value.ref b] below meth c (lw_Z below #[Value.ref b] s) 320 6150 614 [some (.ref b), some (.ref (σ 0)), some (.ref (τ 0)), some (.int (nI (4 * j)))] [] (wo shC σ cA u ++ wo shM τ cA v) := by
      intro u v hGG
      refine b_iinc (pc := 614) (v := nI (4 * (j + 1))) (al' := [some (.ref b), some (.ref (σ 0)), some (.ref (τ 0)), some (.int (nI (4 * (j + 1))))]) X dL_law_614 rfl (by rw [show 4 * (j + 1) = 4 * j + 4 by omega, ← nI_add]; rfl) (by decide) rfl rfl ?_
      refine b_goto (pc := 617) (tgt := 18) X dL_law_617 (by decide) ?_
      exact ih (j + 1) (by omega) (by omega) u v hGG
    refine b_aload_n (pc := 26) X dL_law_26 rfl rfl ?_
    refine b_iload_n (pc := 27) X dL_law_27 rfl rfl ?_
    refine b_sld (pc := 28) (j := 4 * j) X hX hbl (Nat.not_le.mpr hbl) (by omega) (by omega) dL_law_28 ?_
    refine b_bipush (pc := 29) (v := 31) X dL_law_29 (by decide) ?_
    refine b_iand (pc := 31) X dL_law_31 ?_
    obtain ⟨t, ht, et⟩ := and31 (xs (4 * j))
    rw [et]
    match t, ht with
    | 0, _ => exact b_tableIn (pc := 32) (off := 88) (tgt := 120) X dL_law_32 (by decide) (by decide) (by decide) (by decide) (law_write X hX hbl hL hb4 hG hj2 hk)
    | 1, _ => exact b_tableIn (pc := 32) (off := 111) (tgt := 143) X dL_law_32 (by decide) (by decide) (by decide) (by decide) (law_wipe X hX hbl hL hb4 hG hj2 hk)
    | 2, _ => exact b_tableIn (pc := 32) (off := 124) (tgt := 156) X dL_law_32 (by decide) (by decide) (by decide) (by decide) (law_fault X hX hbl hL hb4 hG hj2 hk)
    | 3, _ => exact b_tableIn (pc := 32) (off := 137) (tgt := 169) X dL_law_32 (by decide) (by decide) (by decide) (by decide) (law_lay X hX hbl hL hb4 hG hj2 hk)
    | 4, _ => exact b_tableIn (pc := 32) (off := 150) (tgt := 182) X dL_law_32 (by decide) (by decide) (by decide) (by decide) (law_letter X hX hbl hL hb4 hG hj2 hk)
    | 5, _ => exact b_tableIn (pc := 32) (off := 193) (tgt := 225) X dL_law_32 (by decide) (by decide) (by decide) (by decide) (law_hear X hX hbl hL hb4 hG hj2 hk)
    | 6, _ => exact b_tableIn (pc := 32) (off := 236) (tgt := 268) X dL_law_32 (by decide) (by decide) (by decide) (by decide) (law_draws X hX hbl hL hb4 hG hj2 hk)
    | 7, _ => exact b_tableIn (pc := 32) (off := 259) (tgt := 291) X dL_law_32 (by decide) (by decide) (by decide) (by decide) (law_slot X hX hbl hL hb4 hG hj2 hk)
    | 8, _ => exact b_tableIn (pc := 32) (off := 282) (tgt := 314) X dL_law_32 (by decide) (by decide) (by decide) (by decide) (law_undo X hX hbl hL hb4 hG hj2 hk)
    | 9, _ => exact b_tableIn (pc := 32) (off := 295) (tgt := 327) X dL_law_32 (by decide) (by decide) (by decide) (by decide) (law_station X hX hbl hL hb4 hG hj2 hk)
    | 10, _ => exact b_tableIn (pc := 32) (off := 328) (tgt := 360) X dL_law_32 (by decide) (by decide) (by decide) (by decide) (law_letterOf X hX hbl hL hb4 hG hj2 hk)
    | 11, _ => exact b_tableIn (pc := 32) (off := 371) (tgt := 403) X dL_law_32 (by decide) (by decide) (by decide) (by decide) (law_overheard X hX hbl hL hb4 hG hj2 hk)
    | 12, _ => exact b_tableIn (pc := 32) (off := 414) (tgt := 446) X dL_law_32 (by decide) (by decide) (by decide) (by decide) (law_pair X hX hbl hL hb4 hG hj2 hk)
    | 13, _ => exact b_tableIn (pc := 32) (off := 447) (tgt := 479) X dL_law_32 (by decide) (by decide) (by decide) (by decide) (law_draw X hX hbl hL hb4 hG hj2 hk)
    | 14, _ => exact b_tableIn (pc := 32) (off := 480) (tgt := 512) X dL_law_32 (by decide) (by decide) (by decide) (by decide) (law_took X hX hbl hL hb4 hG hj2 hk)
    | 15, _ => exact b_tableIn (pc := 32) (off := 513) (tgt := 545) X dL_law_32 (by decide) (by decide) (by decide) (by decide) (law_ahead X hX hbl hL hb4 hG hj2 hk)
    | 16, _ => exact b_tableIn (pc := 32) (off := 546) (tgt := 578) X dL_law_32 (by decide) (by decide) (by decide) (by decide) (law_soon X hX hbl hL hb4 hG hj2 hk)
    | 17, _ => exact b_tableIn (pc := 32) (off := 559) (tgt := 591) X dL_law_32 (by decide) (by decide) (by decide) (by decide) (law_count X hX hbl hL hb4 hG hj2 hk)
    | t + 18, ht =>
      have hout : ∀ t, t < 14 → (nI (t + 18)).toInt < 0 ∨ 17 < (nI (t + 18)).toInt := by decide +kernel
      exact b_tableOut (pc := 32) (tgt := 614) X dL_law_32 (hout t (by omega)) (by decide) (hk μ ν (hG.mono (by omega)))
