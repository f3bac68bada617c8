theorem hdL_classOf : yL_classOf.cls ≠ "java/lang/invoke/MethodHandle" ∧ yL_classOf.cls ≠ "java/lang/invoke/VarHandle" ∧ (parseMethodDescriptor yL_classOf.desc).map (fun d => d.parameters.length) = some 3 := by decide +kernel
theorem hdL_combining : yL_combining.cls ≠ "java/lang/invoke/MethodHandle" ∧ yL_combining.cls ≠ "java/lang/invoke/VarHandle" ∧ (parseMethodDescriptor yL_combining.desc).map (fun d => d.parameters.length) = some 3 := by decide +kernel
theorem hdL_complete : yL_complete.cls ≠ "java/lang/invoke/MethodHandle" ∧ yL_complete.cls ≠ "java/lang/invoke/VarHandle" ∧ (parseMethodDescriptor yL_complete.desc).map (fun d => d.parameters.length) = some 3 := by decide +kernel
theorem hdL_cuts : yL_cuts.cls ≠ "java/lang/invoke/MethodHandle" ∧ yL_cuts.cls ≠ "java/lang/invoke/VarHandle" ∧ (parseMethodDescriptor yL_cuts.desc).map (fun d => d.parameters.length) = some 4 := by decide +kernel
theorem hdL_differentForms : yL_differentForms.cls ≠ "java/lang/invoke/MethodHandle" ∧ yL_differentForms.cls ≠ "java/lang/invoke/VarHandle" ∧ (parseMethodDescriptor yL_differentForms.desc).map (fun d => d.parameters.length) = some 3 := by decide +kernel
theorem hdL_formOfOther : yL_formOfOther.cls ≠ "java/lang/invoke/MethodHandle" ∧ yL_formOfOther.cls ≠ "java/lang/invoke/VarHandle" ∧ (parseMethodDescriptor yL_formOfOther.desc).map (fun d => d.parameters.length) = some 3 := by decide +kernel
theorem hdL_formsWithPhrase : yL_formsWithPhrase.cls ≠ "java/lang/invoke/MethodHandle" ∧ yL_formsWithPhrase.cls ≠ "java/lang/invoke/VarHandle" ∧ (parseMethodDescriptor yL_formsWithPhrase.desc).map (fun d => d.parameters.length) = some 3 := by decide +kernel
theorem hdL_hasAllIntervals : yL_hasAllIntervals.cls ≠ "java/lang/invoke/MethodHandle" ∧ yL_hasAllIntervals.cls ≠ "java/lang/invoke/VarHandle" ∧ (parseMethodDescriptor yL_hasAllIntervals.desc).map (fun d => d.parameters.length) = some 3 := by decide +kernel
theorem hdL_interval : yL_interval.cls ≠ "java/lang/invoke/MethodHandle" ∧ yL_interval.cls ≠ "java/lang/invoke/VarHandle" ∧ (parseMethodDescriptor yL_interval.desc).map (fun d => d.parameters.length) = some 4 := by decide +kernel
theorem hdL_isDerived : yL_isDerived.cls ≠ "java/lang/invoke/MethodHandle" ∧ yL_isDerived.cls ≠ "java/lang/invoke/VarHandle" ∧ (parseMethodDescriptor yL_isDerived.desc).map (fun d => d.parameters.length) = some 4 := by decide +kernel
theorem hdL_keptSets : yL_keptSets.cls ≠ "java/lang/invoke/MethodHandle" ∧ yL_keptSets.cls ≠ "java/lang/invoke/VarHandle" ∧ (parseMethodDescriptor yL_keptSets.desc).map (fun d => d.parameters.length) = some 6 := by decide +kernel
theorem hdL_longestKept : yL_longestKept.cls ≠ "java/lang/invoke/MethodHandle" ∧ yL_longestKept.cls ≠ "java/lang/invoke/VarHandle" ∧ (parseMethodDescriptor yL_longestKept.desc).map (fun d => d.parameters.length) = some 5 := by decide +kernel
theorem hdL_matrix : yL_matrix.cls ≠ "java/lang/invoke/MethodHandle" ∧ yL_matrix.cls ≠ "java/lang/invoke/VarHandle" ∧ (parseMethodDescriptor yL_matrix.desc).map (fun d => d.parameters.length) = some 5 := by decide +kernel
theorem hdL_mostKept : yL_mostKept.cls ≠ "java/lang/invoke/MethodHandle" ∧ yL_mostKept.cls ≠ "java/lang/invoke/VarHandle" ∧ (parseMethodDescriptor yL_mostKept.desc).map (fun d => d.parameters.length) = some 4 := by decide +kernel
theorem hdL_multiply : yL_multiply.cls ≠ "java/lang/invoke/MethodHandle" ∧ yL_multiply.cls ≠ "java/lang/invoke/VarHandle" ∧ (parseMethodDescriptor yL_multiply.desc).map (fun d => d.parameters.length) = some 4 := by decide +kernel
theorem hdL_pairs : yL_pairs.cls ≠ "java/lang/invoke/MethodHandle" ∧ yL_pairs.cls ≠ "java/lang/invoke/VarHandle" ∧ (parseMethodDescriptor yL_pairs.desc).map (fun d => d.parameters.length) = some 4 := by decide +kernel
theorem hdL_placeOfPhrase : yL_placeOfPhrase.cls ≠ "java/lang/invoke/MethodHandle" ∧ yL_placeOfPhrase.cls ≠ "java/lang/invoke/VarHandle" ∧ (parseMethodDescriptor yL_placeOfPhrase.desc).map (fun d => d.parameters.length) = some 4 := by decide +kernel
theorem hdL_put : yL_put.cls ≠ "java/lang/invoke/MethodHandle" ∧ yL_put.cls ≠ "java/lang/invoke/VarHandle" ∧ (parseMethodDescriptor yL_put.desc).map (fun d => d.parameters.length) = some 5 := by decide +kernel
theorem hdL_rotate : yL_rotate.cls ≠ "java/lang/invoke/MethodHandle" ∧ yL_rotate.cls ≠ "java/lang/invoke/VarHandle" ∧ (parseMethodDescriptor yL_rotate.desc).map (fun d => d.parameters.length) = some 4 := by decide +kernel
theorem hdL_segment : yL_segment.cls ≠ "java/lang/invoke/MethodHandle" ∧ yL_segment.cls ≠ "java/lang/invoke/VarHandle" ∧ (parseMethodDescriptor yL_segment.desc).map (fun d => d.parameters.length) = some 5 := by decide +kernel
theorem hdL_take : yL_take.cls ≠ "java/lang/invoke/MethodHandle" ∧ yL_take.cls ≠ "java/lang/invoke/VarHandle" ∧ (parseMethodDescriptor yL_take.desc).map (fun d => d.parameters.length) = some 6 := by decide +kernel
theorem hdL_tone : yL_tone.cls ≠ "java/lang/invoke/MethodHandle" ∧ yL_tone.cls ≠ "java/lang/invoke/VarHandle" ∧ (parseMethodDescriptor yL_tone.desc).map (fun d => d.parameters.length) = some 4 := by decide +kernel
theorem hdL_toneOf : yL_toneOf.cls ≠ "java/lang/invoke/MethodHandle" ∧ yL_toneOf.cls ≠ "java/lang/invoke/VarHandle" ∧ (parseMethodDescriptor yL_toneOf.desc).map (fun d => d.parameters.length) = some 6 := by decide +kernel
theorem hdL_write : yL_write.cls ≠ "java/lang/invoke/MethodHandle" ∧ yL_write.cls ≠ "java/lang/invoke/VarHandle" ∧ (parseMethodDescriptor yL_write.desc).map (fun d => d.parameters.length) = some 3 := by decide +kernel
theorem hvX0_erase : yX0_erase.cls = RX0 ∧ yX0_erase.cls ≠ "java/lang/invoke/MethodHandle" ∧ yX0_erase.cls ≠ "java/lang/invoke/VarHandle" ∧ (parseMethodDescriptor yX0_erase.desc).map (fun d => d.parameters.length) = some 0 := by decide +kernel
theorem hvX1_classOf : yX1_classOf.cls = RX1 ∧ yX1_classOf.cls ≠ "java/lang/invoke/MethodHandle" ∧ yX1_classOf.cls ≠ "java/lang/invoke/VarHandle" ∧ (parseMethodDescriptor yX1_classOf.desc).map (fun d => d.parameters.length) = some 1 := by decide +kernel
theorem hvX1_combining : yX1_combining.cls = RX1 ∧ yX1_combining.cls ≠ "java/lang/invoke/MethodHandle" ∧ yX1_combining.cls ≠ "java/lang/invoke/VarHandle" ∧ (parseMethodDescriptor yX1_combining.desc).map (fun d => d.parameters.length) = some 1 := by decide +kernel
theorem hvX1_complete : yX1_complete.cls = RX1 ∧ yX1_complete.cls ≠ "java/lang/invoke/MethodHandle" ∧ yX1_complete.cls ≠ "java/lang/invoke/VarHandle" ∧ (parseMethodDescriptor yX1_complete.desc).map (fun d => d.parameters.length) = some 1 := by decide +kernel
theorem hvX1_cuts : yX1_cuts.cls = RX1 ∧ yX1_cuts.cls ≠ "java/lang/invoke/MethodHandle" ∧ yX1_cuts.cls ≠ "java/lang/invoke/VarHandle" ∧ (parseMethodDescriptor yX1_cuts.desc).map (fun d => d.parameters.length) = some 2 := by decide +kernel
theorem hvX1_differentForms : yX1_differentForms.cls = RX1 ∧ yX1_differentForms.cls ≠ "java/lang/invoke/MethodHandle" ∧ yX1_differentForms.cls ≠ "java/lang/invoke/VarHandle" ∧ (parseMethodDescriptor yX1_differentForms.desc).map (fun d => d.parameters.length) = some 1 := by decide +kernel
theorem hvX1_erase : yX1_erase.cls = RX1 ∧ yX1_erase.cls ≠ "java/lang/invoke/MethodHandle" ∧ yX1_erase.cls ≠ "java/lang/invoke/VarHandle" ∧ (parseMethodDescriptor yX1_erase.desc).map (fun d => d.parameters.length) = some 0 := by decide +kernel
theorem hvX1_formOfOther : yX1_formOfOther.cls = RX1 ∧ yX1_formOfOther.cls ≠ "java/lang/invoke/MethodHandle" ∧ yX1_formOfOther.cls ≠ "java/lang/invoke/VarHandle" ∧ (parseMethodDescriptor yX1_formOfOther.desc).map (fun d => d.parameters.length) = some 1 := by decide +kernel
theorem hvX1_formsWithPhrase : yX1_formsWithPhrase.cls = RX1 ∧ yX1_formsWithPhrase.cls ≠ "java/lang/invoke/MethodHandle" ∧ yX1_formsWithPhrase.cls ≠ "java/lang/invoke/VarHandle" ∧ (parseMethodDescriptor yX1_formsWithPhrase.desc).map (fun d => d.parameters.length) = some 1 := by decide +kernel
theorem hvX1_hasAllIntervals : yX1_hasAllIntervals.cls = RX1 ∧ yX1_hasAllIntervals.cls ≠ "java/lang/invoke/MethodHandle" ∧ yX1_hasAllIntervals.cls ≠ "java/lang/invoke/VarHandle" ∧ (parseMethodDescriptor yX1_hasAllIntervals.desc).map (fun d => d.parameters.length) = some 1 := by decide +kernel
theorem hvX1_interval : yX1_interval.cls = RX1 ∧ yX1_interval.cls ≠ "java/lang/invoke/MethodHandle" ∧ yX1_interval.cls ≠ "java/lang/invoke/VarHandle" ∧ (parseMethodDescriptor yX1_interval.desc).map (fun d => d.parameters.length) = some 2 := by decide +kernel
theorem hvX1_isDerived : yX1_isDerived.cls = RX1 ∧ yX1_isDerived.cls ≠ "java/lang/invoke/MethodHandle" ∧ yX1_isDerived.cls ≠ "java/lang/invoke/VarHandle" ∧ (parseMethodDescriptor yX1_isDerived.desc).map (fun d => d.parameters.length) = some 2 := by decide +kernel
theorem hvX1_keptSets : yX1_keptSets.cls = RX1 ∧ yX1_keptSets.cls ≠ "java/lang/invoke/MethodHandle" ∧ yX1_keptSets.cls ≠ "java/lang/invoke/VarHandle" ∧ (parseMethodDescriptor yX1_keptSets.desc).map (fun d => d.parameters.length) = some 4 := by decide +kernel
theorem hvX1_longestKept : yX1_longestKept.cls = RX1 ∧ yX1_longestKept.cls ≠ "java/lang/invoke/MethodHandle" ∧ yX1_longestKept.cls ≠ "java/lang/invoke/VarHandle" ∧ (parseMethodDescriptor yX1_longestKept.desc).map (fun d => d.parameters.length) = some 3 := by decide +kernel
theorem hvX1_matrix : yX1_matrix.cls = RX1 ∧ yX1_matrix.cls ≠ "java/lang/invoke/MethodHandle" ∧ yX1_matrix.cls ≠ "java/lang/invoke/VarHandle" ∧ (parseMethodDescriptor yX1_matrix.desc).map (fun d => d.parameters.length) = some 3 := by decide +kernel
theorem hvX1_mostKept : yX1_mostKept.cls = RX1 ∧ yX1_mostKept.cls ≠ "java/lang/invoke/MethodHandle" ∧ yX1_mostKept.cls ≠ "java/lang/invoke/VarHandle" ∧ (parseMethodDescriptor yX1_mostKept.desc).map (fun d => d.parameters.length) = some 2 := by decide +kernel
theorem hvX1_multiply : yX1_multiply.cls = RX1 ∧ yX1_multiply.cls ≠ "java/lang/invoke/MethodHandle" ∧ yX1_multiply.cls ≠ "java/lang/invoke/VarHandle" ∧ (parseMethodDescriptor yX1_multiply.desc).map (fun d => d.parameters.length) = some 2 := by decide +kernel
theorem hvX1_pairs : yX1_pairs.cls = RX1 ∧ yX1_pairs.cls ≠ "java/lang/invoke/MethodHandle" ∧ yX1_pairs.cls ≠ "java/lang/invoke/VarHandle" ∧ (parseMethodDescriptor yX1_pairs.desc).map (fun d => d.parameters.length) = some 2 := by decide +kernel
theorem hvX1_placeOfPhrase : yX1_placeOfPhrase.cls = RX1 ∧ yX1_placeOfPhrase.cls ≠ "java/lang/invoke/MethodHandle" ∧ yX1_placeOfPhrase.cls ≠ "java/lang/invoke/VarHandle" ∧ (parseMethodDescriptor yX1_placeOfPhrase.desc).map (fun d => d.parameters.length) = some 2 := by decide +kernel
theorem hvX1_put : yX1_put.cls = RX1 ∧ yX1_put.cls ≠ "java/lang/invoke/MethodHandle" ∧ yX1_put.cls ≠ "java/lang/invoke/VarHandle" ∧ (parseMethodDescriptor yX1_put.desc).map (fun d => d.parameters.length) = some 3 := by decide +kernel
theorem hvX1_rotate : yX1_rotate.cls = RX1 ∧ yX1_rotate.cls ≠ "java/lang/invoke/MethodHandle" ∧ yX1_rotate.cls ≠ "java/lang/invoke/VarHandle" ∧ (parseMethodDescriptor yX1_rotate.desc).map (fun d => d.parameters.length) = some 2 := by decide +kernel
theorem hvX1_segment : yX1_segment.cls = RX1 ∧ yX1_segment.cls ≠ "java/lang/invoke/MethodHandle" ∧ yX1_segment.cls ≠ "java/lang/invoke/VarHandle" ∧ (parseMethodDescriptor yX1_segment.desc).map (fun d => d.parameters.length) = some 3 := by decide +kernel
theorem hvX1_take : yX1_take.cls = RX1 ∧ yX1_take.cls ≠ "java/lang/invoke/MethodHandle" ∧ yX1_take.cls ≠ "java/lang/invoke/VarHandle" ∧ (parseMethodDescriptor yX1_take.desc).map (fun d => d.parameters.length) = some 4 := by decide +kernel
theorem hvX1_thrown : yX1_thrown.cls = RX1 ∧ yX1_thrown.cls ≠ "java/lang/invoke/MethodHandle" ∧ yX1_thrown.cls ≠ "java/lang/invoke/VarHandle" ∧ (parseMethodDescriptor yX1_thrown.desc).map (fun d => d.parameters.length) = some 0 := by decide +kernel
theorem hvX1_tone : yX1_tone.cls = RX1 ∧ yX1_tone.cls ≠ "java/lang/invoke/MethodHandle" ∧ yX1_tone.cls ≠ "java/lang/invoke/VarHandle" ∧ (parseMethodDescriptor yX1_tone.desc).map (fun d => d.parameters.length) = some 2 := by decide +kernel
theorem hvX1_toneOf : yX1_toneOf.cls = RX1 ∧ yX1_toneOf.cls ≠ "java/lang/invoke/MethodHandle" ∧ yX1_toneOf.cls ≠ "java/lang/invoke/VarHandle" ∧ (parseMethodDescriptor yX1_toneOf.desc).map (fun d => d.parameters.length) = some 4 := by decide +kernel
theorem hvX1_write : yX1_write.cls = RX1 ∧ yX1_write.cls ≠ "java/lang/invoke/MethodHandle" ∧ yX1_write.cls ≠ "java/lang/invoke/VarHandle" ∧ (parseMethodDescriptor yX1_write.desc).map (fun d => d.parameters.length) = some 1 := by decide +kernel
set_option maxHeartbeats 4000000 in
set_option maxRecDepth 100000 in
theorem law_c0 {p : Program} {l : Launch} {e : Env} {s : State} {m : MethodId} {below : List Frame} {meth : Method} {c : Code} {Q : State → Prop} {dC : Nat → ClassId} {dI : Nat → Nat → Nat} {cI cJ : ClassId} {b L : Nat} {xs : Nat → Int32} (C : LC p l s m meth c (dC, dI) cI cJ b L xs) {o0 u0 m0 t0 k0 p0 : Nat} {a0 a1 q K : Nat → Nat} {w : Nat} {th : Int32} {g : Nat → Int64} {H : Heap} (hI : LI s (dC, dI) cI cJ o0 u0 m0 t0 k0 p0 a0 a1 q K w th g H) {n cells slots : Nat} (hc1 : cells + 1 ≤ 1036) (hc2 : slots + 6 ≤ 8286) (hn : 5 * n + 5 ≤ L) (hL : L ≤ 2560) {ls : Array Slot} (hl : lv_has ls 8 [(0, .ref b), (1, .ref o0), (2, .ref m0), (3, .ref u0), (4, .int (iI ((5 * n : Nat) : Int)))])
    (kk : ∀ (a0 a1 q K : Nat → Nat) (w : Nat) (th : Int32) (g : Nat → Int64) (H : Heap) (ls : Array Slot), LI s (dC, dI) cI cJ o0 u0 m0 t0 k0 p0 a0 a1 q K w th g H → lv_has ls 8 [(0, .ref b), (1, .ref o0), (2, .ref m0), (3, .ref u0), (4, .int (iI ((5 * n : Nat) : Int)))] → W p l e room_1 s m #[Value.ref b] below meth c H [] (cells + 1) (slots + 6) Q (F0 m 1833 ls [])) : W p l e room_1 s m #[Value.ref b] below meth c H [] cells slots Q (F0 m 152 ls []) := by
  obtain ⟨hx, hb, hml, hown, hts, hK, hG0, hN, hX, hbl, hfl⟩ := C
  obtain ⟨hp0, hp1, hw, hq, hqd, hP, hD, hS⟩ := hI
  have hbA : ¬ LA s b := Nat.not_le.mpr hbl
  obtain ⟨z0, hz0, e0⟩ := ex_i (xs (5 * n + 1))
  obtain ⟨z1, hz1, e1⟩ := ex_i (xs (5 * n + 2))
  obtain ⟨z2, hz2, e2⟩ := ex_i (xs (5 * n + 3))
  have hza0 := hz0.1
  have hzb0 := hz0.2
  have hza1 := hz1.1
  have hzb1 := hz1.2
  have hza2 := hz2.1
  have hzb2 := hz2.2
  by_cases b1 : ¬ ((z0 = 0 ∨ z0 = 1) ∧ (0 ≤ z1 ∧ z1 ≤ 11))
  · skip
    refine lv_aload_n hx hb dL_law_152 rfl (lv_at hl 1 rfl) ?_
    refine lv_aload_n hx hb dL_law_153 rfl (lv_at hl 0 rfl) ?_
    refine lv_iload hx hb dL_law_154 (lv_at hl 4 rfl) ?_
    refine ib_const hx hb dL_law_156 ?_
    refine ib_add (z := (((5 * n) + 1 : Nat) : Int)) hx hb dL_law_157 (by omega) ?_
    refine st_i (y := iI ((5 * n + 1 : Nat) : Int)) (congrArg iI (by omega)) ?_
    refine va_sld (b := b) (L := L) (xs := xs) hx hb hX hbl hbA hS (iI_vp (i := 5 * n + 1) (by omega) (by omega)) dL_law_158 ?_
    refine st_i (y := iI z0) ((congrArg xs (iI_cl (by omega))).trans e0) ?_
    refine lv_aload_n hx hb dL_law_159 rfl (lv_at hl 0 rfl) ?_
    refine lv_iload hx hb dL_law_160 (lv_at hl 4 rfl) ?_
    refine ib_const hx hb dL_law_162 ?_
    refine ib_add (z := (((5 * n) + 2 : Nat) : Int)) hx hb dL_law_163 (by omega) ?_
    refine st_i (y := iI ((5 * n + 2 : Nat) : Int)) (congrArg iI (by omega)) ?_
    refine va_sld (b := b) (L := L) (xs := xs) hx hb hX hbl hbA hS (iI_vp (i := 5 * n + 2) (by omega) (by omega)) dL_law_164 ?_
    refine st_i (y := iI z1) ((congrArg xs (iI_cl (by omega))).trans e1) ?_
    refine lv_aload_n hx hb dL_law_165 rfl (lv_at hl 0 rfl) ?_
    refine lv_iload hx hb dL_law_166 (lv_at hl 4 rfl) ?_
    refine ib_const hx hb dL_law_168 ?_
    refine ib_add (z := (((5 * n) + 3 : Nat) : Int)) hx hb dL_law_169 (by omega) ?_
    refine st_i (y := iI ((5 * n + 3 : Nat) : Int)) (congrArg iI (by omega)) ?_
    refine va_sld (b := b) (L := L) (xs := xs) hx hb hX hbl hbA hS (iI_vp (i := 5 * n + 3) (by omega) (by omega)) dL_law_170 ?_
    refine st_i (y := iI z2) ((congrArg xs (iI_cl (by omega))).trans e2) ?_
    refine lv_aload_n hx hb dL_law_171 rfl (lv_at hl 3 rfl) ?_
    have hf9 : cells + 1 ≤ room_1.cells ∧ slots + 6 ≤ room_1.slots := ⟨by show cells + 1 ≤ 1036; omega, by show slots + 6 ≤ 8286; omega⟩
    have hP1 : va_P (dC, dI) vwCl [(o0, .inr (0, [.long (pk a0), .long (pk a1), .long (pkn q w), .int (iI ((w : Nat) : Int))]))] H := va_P_l (w1 := [(o0, .inr (0, [.long (pk a0), .long (pk a1), .long (pkn q w), .int (iI ((w : Nat) : Int))]))]) (w2 := [(u0, .inl (cJ, 1, .inr (.inl (g)))), (m0, .inr (1, [.int th, .ref t0, .ref k0, .ref p0, .int (iI ((w : Nat) : Int))])), (t0, .inl (cI, 24, .inl (fun j => iI ((tb a0 a1 j : Nat) : Int)))), (k0, .inl (cI, 12, .inl (fun j => iI ((K j : Nat) : Int)))), (p0, .inl (cI, 12, .inl (fun j => iI ((q j : Nat) : Int))))]) hP
    have hK1 := hK.sub (tys' := []) [] rfl
    refine rdK_call (vx_runSW (As := [.ref o0, .int (iI z0), .int (iI z1), .int (iI z2), .ref u0]) (rest := []) ⟨hx, hb, hml, hown, hts⟩ (mL_put_x1 l hfl dC dI o0 a0 a1 q w hp0 hp1 hw hq hqd u0 z0 z1 z2 hz0 hz1 hz2 b1) (vx_cwSW 5 hts gL_law_L_put rfl rfl rfl hdL_put ⟨(Nat.le_of_ble_eq_true rfl), (Nat.le_of_ble_eq_true rfl)⟩) (bY_preS hK1 hP1 (hG0.at hS) hN) rfl rfl hl.1 rfl (lv_room (Nat.le_of_ble_eq_true rfl)) dL_law_172 hf9) (fun H hz hk => ?_)
    have hP : va_P (dC, dI) vwCl ([(o0, .inr (0, [.long (pk a0), .long (pk a1), .long (pkn q w), .int (iI ((w : Nat) : Int))])), (u0, .inl (cJ, 1, .inr (.inl (g))))] ++ [(m0, .inr (1, [.int th, .ref t0, .ref k0, .ref p0, .int (iI ((w : Nat) : Int))])), (t0, .inl (cI, 24, .inl (fun j => iI ((tb a0 a1 j : Nat) : Int)))), (k0, .inl (cI, 12, .inl (fun j => iI ((K j : Nat) : Int)))), (p0, .inl (cI, 12, .inl (fun j => iI ((q j : Nat) : Int))))]) H := va_P_new hP hk
    have hS := va_S_new hS hz hk
    refine lv_istore (lv' := [(5, .int (iI 1)), (0, .ref b), (1, .ref o0), (2, .ref m0), (3, .ref u0), (4, .int (iI ((5 * n : Nat) : Int)))]) hx hb dL_law_175 hl (by decide) rfl (fun ls hl => ?_)
    refine lv_aload_n hx hb dL_law_177 rfl (lv_at hl 3 rfl) ?_
    refine lv_aload_n hx hb dL_law_178 rfl (lv_at hl 1 rfl) ?_
    refine lv_iload hx hb dL_law_179 (lv_at hl 5 rfl) ?_
    refine ib_const hx hb dL_law_181 ?_
    refine ib_add (z := (((5 * n) + 1 : Nat) : Int)) hx hb dL_law_182 (by omega) ?_
    refine st_i (y := iI ((5 * n + 1 : Nat) : Int)) (congrArg iI (by omega)) ?_
    refine va_sld (b := b) (L := L) (xs := xs) hx hb hX hbl hbA hS (iI_vp (i := 5 * n + 1) (by omega) (by omega)) dL_law_183 ?_
    refine st_i (y := iI z0) ((congrArg xs (iI_cl (by omega))).trans e0) ?_
    refine lv_aload_n hx hb dL_law_184 rfl (lv_at hl 1 rfl) ?_
    refine lv_iload hx hb dL_law_185 (lv_at hl 5 rfl) ?_
    refine ib_const hx hb dL_law_187 ?_
    refine ib_add (z := (((5 * n) + 2 : Nat) : Int)) hx hb dL_law_188 (by omega) ?_
    refine st_i (y := iI ((5 * n + 2 : Nat) : Int)) (congrArg iI (by omega)) ?_
    refine va_sld (b := b) (L := L) (xs := xs) hx hb hX hbl hbA hS (iI_vp (i := 5 * n + 2) (by omega) (by omega)) dL_law_189 ?_
    refine st_i (y := iI z1) ((congrArg xs (iI_cl (by omega))).trans e1) ?_
    refine lv_aload_n hx hb dL_law_190 rfl (lv_at hl 1 rfl) ?_
    refine lv_iload hx hb dL_law_191 (lv_at hl 5 rfl) ?_
    refine ib_const hx hb dL_law_193 ?_
    refine ib_add (z := (((5 * n) + 3 : Nat) : Int)) hx hb dL_law_194 (by omega) ?_
    refine st_i (y := iI ((5 * n + 3 : Nat) : Int)) (congrArg iI (by omega)) ?_
    refine va_sld (b := b) (L := L) (xs := xs) hx hb hX hbl hbA hS (iI_vp (i := 5 * n + 3) (by omega) (by omega)) dL_law_195 ?_
    refine st_i (y := iI z2) ((congrArg xs (iI_cl (by omega))).trans e2) ?_
    have hP2 : va_P (dC, dI) vwCl [(m0, .inr (1, [.int th, .ref t0, .ref k0, .ref p0, .int (iI ((w : Nat) : Int))])), (t0, .inl (cI, 24, .inl (fun j => iI ((tb a0 a1 j : Nat) : Int)))), (k0, .inl (cI, 12, .inl (fun j => iI ((K j : Nat) : Int)))), (p0, .inl (cI, 12, .inl (fun j => iI ((q j : Nat) : Int))))] H := va_P_r (w1 := [(o0, .inr (0, [.long (pk a0), .long (pk a1), .long (pkn q w), .int (iI ((w : Nat) : Int))])), (u0, .inl (cJ, 1, .inr (.inl (g))))]) (w2 := [(m0, .inr (1, [.int th, .ref t0, .ref k0, .ref p0, .int (iI ((w : Nat) : Int))])), (t0, .inl (cI, 24, .inl (fun j => iI ((tb a0 a1 j : Nat) : Int)))), (k0, .inl (cI, 12, .inl (fun j => iI ((K j : Nat) : Int)))), (p0, .inl (cI, 12, .inl (fun j => iI ((q j : Nat) : Int))))]) hP
    have hK2 := hK.sub (tys' := [(cI, .int)]) [1] rfl
    have hf9 : cells + 1 + 0 ≤ room_1.cells ∧ slots + 6 + 0 ≤ room_1.slots := ⟨by show cells + 1 + 0 ≤ 1036; omega, by show slots + 6 + 0 ≤ 8286; omega⟩
    have hD2 : va_D (LA s) [(m0, .inr (1, [.int th, .ref t0, .ref k0, .ref p0, .int (iI ((w : Nat) : Int))])), (t0, .inl (cI, 24, .inl (fun j => iI ((tb a0 a1 j : Nat) : Int)))), (k0, .inl (cI, 12, .inl (fun j => iI ((K j : Nat) : Int)))), (p0, .inl (cI, 12, .inl (fun j => iI ((q j : Nat) : Int))))] := va_D_r (w1 := [(o0, .inr (0, [.long (pk a0), .long (pk a1), .long (pkn q w), .int (iI ((w : Nat) : Int))])), (u0, .inl (cJ, 1, .inr (.inl (g))))]) (w2 := [(m0, .inr (1, [.int th, .ref t0, .ref k0, .ref p0, .int (iI ((w : Nat) : Int))])), (t0, .inl (cI, 24, .inl (fun j => iI ((tb a0 a1 j : Nat) : Int)))), (k0, .inl (cI, 12, .inl (fun j => iI ((K j : Nat) : Int)))), (p0, .inl (cI, 12, .inl (fun j => iI ((q j : Nat) : Int))))]) hD
    refine wr_call (va_runV (As := [.int (iI z0), .int (iI z1), .int (iI z2)]) (rest := []) ⟨hx, hb, hml, hown, hts⟩ (mX1_put_x1 l dC dI cI m0 t0 k0 p0 a0 a1 K q th w hp0.1 hp1.1 hw hq z0 z1 z2 hz0 hz1 hz2 b1) (cwV 3 hts gL_law_X1_put rfl rfl rfl hvX1_put ⟨(Nat.le_of_ble_eq_true rfl), (Nat.le_of_ble_eq_true rfl)⟩) (bD_pre (ci := 1) (q0 := 0) hK2 hP2 hD2 rfl rfl rfl) rfl rfl hl.1 rfl (lv_room (Nat.le_of_ble_eq_true rfl)) dL_law_196 hf9) hS (fun q9 h => inW_A hD2 h) (fun H locs hPn hz hk hS => ?_)
    have hP : va_P (dC, dI) vwCl ([(o0, .inr (0, [.long (pk a0), .long (pk a1), .long (pkn q w), .int (iI ((w : Nat) : Int))])), (u0, .inl (cJ, 1, .inr (.inl (g))))] ++ [(m0, .inr (1, [.int (iI 1), .ref t0, .ref k0, .ref p0, .int (iI ((w : Nat) : Int))])), (t0, .inl (cI, 24, .inl (fun j => iI ((tb a0 a1 j : Nat) : Int)))), (k0, .inl (cI, 12, .inl (fun j => iI ((K j : Nat) : Int)))), (p0, .inl (cI, 12, .inl (fun j => iI ((q j : Nat) : Int))))]) H := wj_r (w1 := [(o0, .inr (0, [.long (pk a0), .long (pk a1), .long (pkn q w), .int (iI ((w : Nat) : Int))])), (u0, .inl (cJ, 1, .inr (.inl (g))))]) (w2 := [(m0, .inr (1, [.int th, .ref t0, .ref k0, .ref p0, .int (iI ((w : Nat) : Int))])), (t0, .inl (cI, 24, .inl (fun j => iI ((tb a0 a1 j : Nat) : Int)))), (k0, .inl (cI, 12, .inl (fun j => iI ((K j : Nat) : Int)))), (p0, .inl (cI, 12, .inl (fun j => iI ((q j : Nat) : Int))))]) (w2' := [(m0, .inr (1, [.int (iI 1), .ref t0, .ref k0, .ref p0, .int (iI ((w : Nat) : Int))])), (t0, .inl (cI, 24, .inl (fun j => iI ((tb a0 a1 j : Nat) : Int)))), (k0, .inl (cI, 12, .inl (fun j => iI ((K j : Nat) : Int)))), (p0, .inl (cI, 12, .inl (fun j => iI ((q j : Nat) : Int))))]) hP hD hPn hk
    have hD : va_D (LA s) ([(o0, .inr (0, [.long (pk a0), .long (pk a1), .long (pkn q w), .int (iI ((w : Nat) : Int))])), (u0, .inl (cJ, 1, .inr (.inl (g))))] ++ [(m0, .inr (1, [.int (iI 1), .ref t0, .ref k0, .ref p0, .int (iI ((w : Nat) : Int))])), (t0, .inl (cI, 24, .inl (fun j => iI ((tb a0 a1 j : Nat) : Int)))), (k0, .inl (cI, 12, .inl (fun j => iI ((K j : Nat) : Int)))), (p0, .inl (cI, 12, .inl (fun j => iI ((q j : Nat) : Int))))]) := va_D_same (w := ([(o0, .inr (0, [.long (pk a0), .long (pk a1), .long (pkn q w), .int (iI ((w : Nat) : Int))])), (u0, .inl (cJ, 1, .inr (.inl (g))))] ++ [(m0, .inr (1, [.int th, .ref t0, .ref k0, .ref p0, .int (iI ((w : Nat) : Int))])), (t0, .inl (cI, 24, .inl (fun j => iI ((tb a0 a1 j : Nat) : Int)))), (k0, .inl (cI, 12, .inl (fun j => iI ((K j : Nat) : Int)))), (p0, .inl (cI, 12, .inl (fun j => iI ((q j : Nat) : Int))))])) (Eq.trans (b := [o0, u0, m0, t0, k0, p0]) rfl rfl) hD
    refine va_forget hS.2.2 ?_
    have hS := va_S_nil hS
    refine lv_istore (lv' := [(6, .int (iI 0)), (5, .int (iI 1)), (0, .ref b), (1, .ref o0), (2, .ref m0), (3, .ref u0), (4, .int (iI ((5 * n : Nat) : Int)))]) hx hb dL_law_199 hl (by decide) rfl (fun ls hl => ?_)
    refine lv_aload_n hx hb dL_law_201 rfl (lv_at hl 4 rfl) ?_
    have hP2 : va_P (dC, dI) vwCl [(m0, .inr (1, [.int (iI 1), .ref t0, .ref k0, .ref p0, .int (iI ((w : Nat) : Int))])), (t0, .inl (cI, 24, .inl (fun j => iI ((tb a0 a1 j : Nat) : Int)))), (k0, .inl (cI, 12, .inl (fun j => iI ((K j : Nat) : Int)))), (p0, .inl (cI, 12, .inl (fun j => iI ((q j : Nat) : Int))))] H := va_P_r (w1 := [(o0, .inr (0, [.long (pk a0), .long (pk a1), .long (pkn q w), .int (iI ((w : Nat) : Int))])), (u0, .inl (cJ, 1, .inr (.inl (g))))]) (w2 := [(m0, .inr (1, [.int (iI 1), .ref t0, .ref k0, .ref p0, .int (iI ((w : Nat) : Int))])), (t0, .inl (cI, 24, .inl (fun j => iI ((tb a0 a1 j : Nat) : Int)))), (k0, .inl (cI, 12, .inl (fun j => iI ((K j : Nat) : Int)))), (p0, .inl (cI, 12, .inl (fun j => iI ((q j : Nat) : Int))))]) hP
    have hK2 := hK.sub (tys' := [(cI, .int)]) [1] rfl
    have hf9 : cells + 1 + 0 ≤ room_1.cells ∧ slots + 6 + 0 ≤ room_1.slots := ⟨by show cells + 1 + 0 ≤ 1036; omega, by show slots + 6 + 0 ≤ 8286; omega⟩
    refine rd_call (va_runV (As := []) (rest := []) ⟨hx, hb, hml, hown, hts⟩ (mX1_thrown l dC dI cI m0 t0 k0 p0 a0 a1 K q (iI 1) w hp0.1 hp1.1 hw hq) (cwV 0 hts gL_law_X1_thrown rfl rfl rfl hvX1_thrown ⟨(Nat.le_of_ble_eq_true rfl), (Nat.le_of_ble_eq_true rfl)⟩) (bW_pre (ci := 1) (q0 := 0) hK2 hP2 rfl rfl rfl) rfl rfl hl.1 rfl (lv_room (Nat.le_of_ble_eq_true rfl)) dL_law_202 hf9) ?_
    refine lv_iload hx hb dL_law_205 (lv_at hl 1 rfl) ?_
    refine ib_icmp_eq (tgt := 212) hx hb dL_law_207 (by decide) ⟨by omega, by omega⟩ ⟨by omega, by omega⟩ (fun c_207 => ?_) (fun c_207 => absurd c_207 (by decide))
    refine lv_iload hx hb dL_law_212 (lv_at hl 1 rfl) ?_
    refine ib_if_ne (tgt := 229) hx hb dL_law_214 (by decide) ⟨by omega, by omega⟩ (fun c_214 => ?_) (fun c_214 => absurd c_214 (by decide))
    refine lv_goto (tgt := 1833) hx hb dL_law_229 (by decide) ?_
    exact kk a0 a1 q K w (iI 1) (g) H ls ⟨hp0, hp1, hw, hq, hqd, hP, hD, hS⟩ (lv_sub hl [2, 3, 4, 5, 6] rfl)
  by_cases b2 : ((z0 = 0 ∨ z0 = 1) ∧ (0 ≤ z1 ∧ z1 ≤ 11)) ∧ ¬ (0 ≤ z2 ∧ z2 ≤ 11)
  · skip
    refine lv_aload_n hx hb dL_law_152 rfl (lv_at hl 1 rfl) ?_
    refine lv_aload_n hx hb dL_law_153 rfl (lv_at hl 0 rfl) ?_
    refine lv_iload hx hb dL_law_154 (lv_at hl 4 rfl) ?_
    refine ib_const hx hb dL_law_156 ?_
    refine ib_add (z := (((5 * n) + 1 : Nat) : Int)) hx hb dL_law_157 (by omega) ?_
    refine st_i (y := iI ((5 * n + 1 : Nat) : Int)) (congrArg iI (by omega)) ?_
    refine va_sld (b := b) (L := L) (xs := xs) hx hb hX hbl hbA hS (iI_vp (i := 5 * n + 1) (by omega) (by omega)) dL_law_158 ?_
    refine st_i (y := iI z0) ((congrArg xs (iI_cl (by omega))).trans e0) ?_
    refine lv_aload_n hx hb dL_law_159 rfl (lv_at hl 0 rfl) ?_
    refine lv_iload hx hb dL_law_160 (lv_at hl 4 rfl) ?_
    refine ib_const hx hb dL_law_162 ?_
    refine ib_add (z := (((5 * n) + 2 : Nat) : Int)) hx hb dL_law_163 (by omega) ?_
    refine st_i (y := iI ((5 * n + 2 : Nat) : Int)) (congrArg iI (by omega)) ?_
    refine va_sld (b := b) (L := L) (xs := xs) hx hb hX hbl hbA hS (iI_vp (i := 5 * n + 2) (by omega) (by omega)) dL_law_164 ?_
    refine st_i (y := iI z1) ((congrArg xs (iI_cl (by omega))).trans e1) ?_
    refine lv_aload_n hx hb dL_law_165 rfl (lv_at hl 0 rfl) ?_
    refine lv_iload hx hb dL_law_166 (lv_at hl 4 rfl) ?_
    refine ib_const hx hb dL_law_168 ?_
    refine ib_add (z := (((5 * n) + 3 : Nat) : Int)) hx hb dL_law_169 (by omega) ?_
    refine st_i (y := iI ((5 * n + 3 : Nat) : Int)) (congrArg iI (by omega)) ?_
    refine va_sld (b := b) (L := L) (xs := xs) hx hb hX hbl hbA hS (iI_vp (i := 5 * n + 3) (by omega) (by omega)) dL_law_170 ?_
    refine st_i (y := iI z2) ((congrArg xs (iI_cl (by omega))).trans e2) ?_
    refine lv_aload_n hx hb dL_law_171 rfl (lv_at hl 3 rfl) ?_
    have hf9 : cells + 1 ≤ room_1.cells ∧ slots + 6 ≤ room_1.slots := ⟨by show cells + 1 ≤ 1036; omega, by show slots + 6 ≤ 8286; omega⟩
    have hP1 : va_P (dC, dI) vwCl [(o0, .inr (0, [.long (pk a0), .long (pk a1), .long (pkn q w), .int (iI ((w : Nat) : Int))]))] H := va_P_l (w1 := [(o0, .inr (0, [.long (pk a0), .long (pk a1), .long (pkn q w), .int (iI ((w : Nat) : Int))]))]) (w2 := [(u0, .inl (cJ, 1, .inr (.inl (g)))), (m0, .inr (1, [.int th, .ref t0, .ref k0, .ref p0, .int (iI ((w : Nat) : Int))])), (t0, .inl (cI, 24, .inl (fun j => iI ((tb a0 a1 j : Nat) : Int)))), (k0, .inl (cI, 12, .inl (fun j => iI ((K j : Nat) : Int)))), (p0, .inl (cI, 12, .inl (fun j => iI ((q j : Nat) : Int))))]) hP
    have hK1 := hK.sub (tys' := []) [] rfl
    refine rdK_call (vx_runSW (As := [.ref o0, .int (iI z0), .int (iI z1), .int (iI z2), .ref u0]) (rest := []) ⟨hx, hb, hml, hown, hts⟩ (mL_put_x2 l hfl dC dI o0 a0 a1 q w hp0 hp1 hw hq hqd u0 z0 z1 z2 hz0 hz1 hz2 b2) (vx_cwSW 5 hts gL_law_L_put rfl rfl rfl hdL_put ⟨(Nat.le_of_ble_eq_true rfl), (Nat.le_of_ble_eq_true rfl)⟩) (bY_preS hK1 hP1 (hG0.at hS) hN) rfl rfl hl.1 rfl (lv_room (Nat.le_of_ble_eq_true rfl)) dL_law_172 hf9) (fun H hz hk => ?_)
    have hP : va_P (dC, dI) vwCl ([(o0, .inr (0, [.long (pk a0), .long (pk a1), .long (pkn q w), .int (iI ((w : Nat) : Int))])), (u0, .inl (cJ, 1, .inr (.inl (g))))] ++ [(m0, .inr (1, [.int th, .ref t0, .ref k0, .ref p0, .int (iI ((w : Nat) : Int))])), (t0, .inl (cI, 24, .inl (fun j => iI ((tb a0 a1 j : Nat) : Int)))), (k0, .inl (cI, 12, .inl (fun j => iI ((K j : Nat) : Int)))), (p0, .inl (cI, 12, .inl (fun j => iI ((q j : Nat) : Int))))]) H := va_P_new hP hk
    have hS := va_S_new hS hz hk
    refine lv_istore (lv' := [(5, .int (iI 2)), (0, .ref b), (1, .ref o0), (2, .ref m0), (3, .ref u0), (4, .int (iI ((5 * n : Nat) : Int)))]) hx hb dL_law_175 hl (by decide) rfl (fun ls hl => ?_)
    refine lv_aload_n hx hb dL_law_177 rfl (lv_at hl 3 rfl) ?_
    refine lv_aload_n hx hb dL_law_178 rfl (lv_at hl 1 rfl) ?_
    refine lv_iload hx hb dL_law_179 (lv_at hl 5 rfl) ?_
    refine ib_const hx hb dL_law_181 ?_
    refine ib_add (z := (((5 * n) + 1 : Nat) : Int)) hx hb dL_law_182 (by omega) ?_
    refine st_i (y := iI ((5 * n + 1 : Nat) : Int)) (congrArg iI (by omega)) ?_
    refine va_sld (b := b) (L := L) (xs := xs) hx hb hX hbl hbA hS (iI_vp (i := 5 * n + 1) (by omega) (by omega)) dL_law_183 ?_
    refine st_i (y := iI z0) ((congrArg xs (iI_cl (by omega))).trans e0) ?_
    refine lv_aload_n hx hb dL_law_184 rfl (lv_at hl 1 rfl) ?_
    refine lv_iload hx hb dL_law_185 (lv_at hl 5 rfl) ?_
    refine ib_const hx hb dL_law_187 ?_
    refine ib_add (z := (((5 * n) + 2 : Nat) : Int)) hx hb dL_law_188 (by omega) ?_
    refine st_i (y := iI ((5 * n + 2 : Nat) : Int)) (congrArg iI (by omega)) ?_
    refine va_sld (b := b) (L := L) (xs := xs) hx hb hX hbl hbA hS (iI_vp (i := 5 * n + 2) (by omega) (by omega)) dL_law_189 ?_
    refine st_i (y := iI z1) ((congrArg xs (iI_cl (by omega))).trans e1) ?_
    refine lv_aload_n hx hb dL_law_190 rfl (lv_at hl 1 rfl) ?_
    refine lv_iload hx hb dL_law_191 (lv_at hl 5 rfl) ?_
    refine ib_const hx hb dL_law_193 ?_
    refine ib_add (z := (((5 * n) + 3 : Nat) : Int)) hx hb dL_law_194 (by omega) ?_
    refine st_i (y := iI ((5 * n + 3 : Nat) : Int)) (congrArg iI (by omega)) ?_
    refine va_sld (b := b) (L := L) (xs := xs) hx hb hX hbl hbA hS (iI_vp (i := 5 * n + 3) (by omega) (by omega)) dL_law_195 ?_
    refine st_i (y := iI z2) ((congrArg xs (iI_cl (by omega))).trans e2) ?_
    have hP2 : va_P (dC, dI) vwCl [(m0, .inr (1, [.int th, .ref t0, .ref k0, .ref p0, .int (iI ((w : Nat) : Int))])), (t0, .inl (cI, 24, .inl (fun j => iI ((tb a0 a1 j : Nat) : Int)))), (k0, .inl (cI, 12, .inl (fun j => iI ((K j : Nat) : Int)))), (p0, .inl (cI, 12, .inl (fun j => iI ((q j : Nat) : Int))))] H := va_P_r (w1 := [(o0, .inr (0, [.long (pk a0), .long (pk a1), .long (pkn q w), .int (iI ((w : Nat) : Int))])), (u0, .inl (cJ, 1, .inr (.inl (g))))]) (w2 := [(m0, .inr (1, [.int th, .ref t0, .ref k0, .ref p0, .int (iI ((w : Nat) : Int))])), (t0, .inl (cI, 24, .inl (fun j => iI ((tb a0 a1 j : Nat) : Int)))), (k0, .inl (cI, 12, .inl (fun j => iI ((K j : Nat) : Int)))), (p0, .inl (cI, 12, .inl (fun j => iI ((q j : Nat) : Int))))]) hP
    have hK2 := hK.sub (tys' := [(cI, .int)]) [1] rfl
    have hf9 : cells + 1 + 0 ≤ room_1.cells ∧ slots + 6 + 0 ≤ room_1.slots := ⟨by show cells + 1 + 0 ≤ 1036; omega, by show slots + 6 + 0 ≤ 8286; omega⟩
    have hD2 : va_D (LA s) [(m0, .inr (1, [.int th, .ref t0, .ref k0, .ref p0, .int (iI ((w : Nat) : Int))])), (t0, .inl (cI, 24, .inl (fun j => iI ((tb a0 a1 j : Nat) : Int)))), (k0, .inl (cI, 12, .inl (fun j => iI ((K j : Nat) : Int)))), (p0, .inl (cI, 12, .inl (fun j => iI ((q j : Nat) : Int))))] := va_D_r (w1 := [(o0, .inr (0, [.long (pk a0), .long (pk a1), .long (pkn q w), .int (iI ((w : Nat) : Int))])), (u0, .inl (cJ, 1, .inr (.inl (g))))]) (w2 := [(m0, .inr (1, [.int th, .ref t0, .ref k0, .ref p0, .int (iI ((w : Nat) : Int))])), (t0, .inl (cI, 24, .inl (fun j => iI ((tb a0 a1 j : Nat) : Int)))), (k0, .inl (cI, 12, .inl (fun j => iI ((K j : Nat) : Int)))), (p0, .inl (cI, 12, .inl (fun j => iI ((q j : Nat) : Int))))]) hD
    refine wr_call (va_runV (As := [.int (iI z0), .int (iI z1), .int (iI z2)]) (rest := []) ⟨hx, hb, hml, hown, hts⟩ (mX1_put_x2 l dC dI cI m0 t0 k0 p0 a0 a1 K q th w hp0.1 hp1.1 hw hq z0 z1 z2 hz0 hz1 hz2 b2) (cwV 3 hts gL_law_X1_put rfl rfl rfl hvX1_put ⟨(Nat.le_of_ble_eq_true rfl), (Nat.le_of_ble_eq_true rfl)⟩) (bD_pre (ci := 1) (q0 := 0) hK2 hP2 hD2 rfl rfl rfl) rfl rfl hl.1 rfl (lv_room (Nat.le_of_ble_eq_true rfl)) dL_law_196 hf9) hS (fun q9 h => inW_A hD2 h) (fun H locs hPn hz hk hS => ?_)
    have hP : va_P (dC, dI) vwCl ([(o0, .inr (0, [.long (pk a0), .long (pk a1), .long (pkn q w), .int (iI ((w : Nat) : Int))])), (u0, .inl (cJ, 1, .inr (.inl (g))))] ++ [(m0, .inr (1, [.int (iI 2), .ref t0, .ref k0, .ref p0, .int (iI ((w : Nat) : Int))])), (t0, .inl (cI, 24, .inl (fun j => iI ((tb a0 a1 j : Nat) : Int)))), (k0, .inl (cI, 12, .inl (fun j => iI ((K j : Nat) : Int)))), (p0, .inl (cI, 12, .inl (fun j => iI ((q j : Nat) : Int))))]) H := wj_r (w1 := [(o0, .inr (0, [.long (pk a0), .long (pk a1), .long (pkn q w), .int (iI ((w : Nat) : Int))])), (u0, .inl (cJ, 1, .inr (.inl (g))))]) (w2 := [(m0, .inr (1, [.int th, .ref t0, .ref k0, .ref p0, .int (iI ((w : Nat) : Int))])), (t0, .inl (cI, 24, .inl (fun j => iI ((tb a0 a1 j : Nat) : Int)))), (k0, .inl (cI, 12, .inl (fun j => iI ((K j : Nat) : Int)))), (p0, .inl (cI, 12, .inl (fun j => iI ((q j : Nat) : Int))))]) (w2' := [(m0, .inr (1, [.int (iI 2), .ref t0, .ref k0, .ref p0, .int (iI ((w : Nat) : Int))])), (t0, .inl (cI, 24, .inl (fun j => iI ((tb a0 a1 j : Nat) : Int)))), (k0, .inl (cI, 12, .inl (fun j => iI ((K j : Nat) : Int)))), (p0, .inl (cI, 12, .inl (fun j => iI ((q j : Nat) : Int))))]) hP hD hPn hk
    have hD : va_D (LA s) ([(o0, .inr (0, [.long (pk a0), .long (pk a1), .long (pkn q w), .int (iI ((w : Nat) : Int))])), (u0, .inl (cJ, 1, .inr (.inl (g))))] ++ [(m0, .inr (1, [.int (iI 2), .ref t0, .ref k0, .ref p0, .int (iI ((w : Nat) : Int))])), (t0, .inl (cI, 24, .inl (fun j => iI ((tb a0 a1 j : Nat) : Int)))), (k0, .inl (cI, 12, .inl (fun j => iI ((K j : Nat) : Int)))), (p0, .inl (cI, 12, .inl (fun j => iI ((q j : Nat) : Int))))]) := va_D_same (w := ([(o0, .inr (0, [.long (pk a0), .long (pk a1), .long (pkn q w), .int (iI ((w : Nat) : Int))])), (u0, .inl (cJ, 1, .inr (.inl (g))))] ++ [(m0, .inr (1, [.int th, .ref t0, .ref k0, .ref p0, .int (iI ((w : Nat) : Int))])), (t0, .inl (cI, 24, .inl (fun j => iI ((tb a0 a1 j : Nat) : Int)))), (k0, .inl (cI, 12, .inl (fun j => iI ((K j : Nat) : Int)))), (p0, .inl (cI, 12, .inl (fun j => iI ((q j : Nat) : Int))))])) (Eq.trans (b := [o0, u0, m0, t0, k0, p0]) rfl rfl) hD
    refine va_forget hS.2.2 ?_
    have hS := va_S_nil hS
    refine lv_istore (lv' := [(6, .int (iI 0)), (5, .int (iI 2)), (0, .ref b), (1, .ref o0), (2, .ref m0), (3, .ref u0), (4, .int (iI ((5 * n : Nat) : Int)))]) hx hb dL_law_199 hl (by decide) rfl (fun ls hl => ?_)
    refine lv_aload_n hx hb dL_law_201 rfl (lv_at hl 4 rfl) ?_
    have hP2 : va_P (dC, dI) vwCl [(m0, .inr (1, [.int (iI 2), .ref t0, .ref k0, .ref p0, .int (iI ((w : Nat) : Int))])), (t0, .inl (cI, 24, .inl (fun j => iI ((tb a0 a1 j : Nat) : Int)))), (k0, .inl (cI, 12, .inl (fun j => iI ((K j : Nat) : Int)))), (p0, .inl (cI, 12, .inl (fun j => iI ((q j : Nat) : Int))))] H := va_P_r (w1 := [(o0, .inr (0, [.long (pk a0), .long (pk a1), .long (pkn q w), .int (iI ((w : Nat) : Int))])), (u0, .inl (cJ, 1, .inr (.inl (g))))]) (w2 := [(m0, .inr (1, [.int (iI 2), .ref t0, .ref k0, .ref p0, .int (iI ((w : Nat) : Int))])), (t0, .inl (cI, 24, .inl (fun j => iI ((tb a0 a1 j : Nat) : Int)))), (k0, .inl (cI, 12, .inl (fun j => iI ((K j : Nat) : Int)))), (p0, .inl (cI, 12, .inl (fun j => iI ((q j : Nat) : Int))))]) hP
    have hK2 := hK.sub (tys' := [(cI, .int)]) [1] rfl
    have hf9 : cells + 1 + 0 ≤ room_1.cells ∧ slots + 6 + 0 ≤ room_1.slots := ⟨by show cells + 1 + 0 ≤ 1036; omega, by show slots + 6 + 0 ≤ 8286; omega⟩
    refine rd_call (va_runV (As := []) (rest := []) ⟨hx, hb, hml, hown, hts⟩ (mX1_thrown l dC dI cI m0 t0 k0 p0 a0 a1 K q (iI 2) w hp0.1 hp1.1 hw hq) (cwV 0 hts gL_law_X1_thrown rfl rfl rfl hvX1_thrown ⟨(Nat.le_of_ble_eq_true rfl), (Nat.le_of_ble_eq_true rfl)⟩) (bW_pre (ci := 1) (q0 := 0) hK2 hP2 rfl rfl rfl) rfl rfl hl.1 rfl (lv_room (Nat.le_of_ble_eq_true rfl)) dL_law_202 hf9) ?_
    refine lv_iload hx hb dL_law_205 (lv_at hl 1 rfl) ?_
    refine ib_icmp_eq (tgt := 212) hx hb dL_law_207 (by decide) ⟨by omega, by omega⟩ ⟨by omega, by omega⟩ (fun c_207 => ?_) (fun c_207 => absurd c_207 (by decide))
    refine lv_iload hx hb dL_law_212 (lv_at hl 1 rfl) ?_
    refine ib_if_ne (tgt := 229) hx hb dL_law_214 (by decide) ⟨by omega, by omega⟩ (fun c_214 => ?_) (fun c_214 => absurd c_214 (by decide))
    refine lv_goto (tgt := 1833) hx hb dL_law_229 (by decide) ?_
    exact kk a0 a1 q K w (iI 2) (g) H ls ⟨hp0, hp1, hw, hq, hqd, hP, hD, hS⟩ (lv_sub hl [2, 3, 4, 5, 6] rfl)
  obtain ⟨r, hn0, rfl⟩ := nat_of (z := z0) (k := 4095) (by omega)
  obtain ⟨i, hn1, rfl⟩ := nat_of (z := z1) (k := 4095) (by omega)
  obtain ⟨t, hn2, rfl⟩ := nat_of (z := z2) (k := 4095) (by omega)
  have hF : Pm (putF (rw_ r a0 a1) i t) := putF_Pm (rw_Pm hp0 hp1 r) (by omega) (by omega)
  refine lv_aload_n hx hb dL_law_152 rfl (lv_at hl 1 rfl) ?_
  refine lv_aload_n hx hb dL_law_153 rfl (lv_at hl 0 rfl) ?_
  refine lv_iload hx hb dL_law_154 (lv_at hl 4 rfl) ?_
  refine ib_const hx hb dL_law_156 ?_
  refine ib_add (z := (((5 * n) + 1 : Nat) : Int)) hx hb dL_law_157 (by omega) ?_
  refine st_i (y := iI ((5 * n + 1 : Nat) : Int)) (congrArg iI (by omega)) ?_
  refine va_sld (b := b) (L := L) (xs := xs) hx hb hX hbl hbA hS (iI_vp (i := 5 * n + 1) (by omega) (by omega)) dL_law_158 ?_
  refine st_i (y := iI ((r : Nat) : Int)) ((congrArg xs (iI_cl (by omega))).trans e0) ?_
  refine lv_aload_n hx hb dL_law_159 rfl (lv_at hl 0 rfl) ?_
  refine lv_iload hx hb dL_law_160 (lv_at hl 4 rfl) ?_
  refine ib_const hx hb dL_law_162 ?_
  refine ib_add (z := (((5 * n) + 2 : Nat) : Int)) hx hb dL_law_163 (by omega) ?_
  refine st_i (y := iI ((5 * n + 2 : Nat) : Int)) (congrArg iI (by omega)) ?_
  refine va_sld (b := b) (L := L) (xs := xs) hx hb hX hbl hbA hS (iI_vp (i := 5 * n + 2) (by omega) (by omega)) dL_law_164 ?_
  refine st_i (y := iI ((i : Nat) : Int)) ((congrArg xs (iI_cl (by omega))).trans e1) ?_
  refine lv_aload_n hx hb dL_law_165 rfl (lv_at hl 0 rfl) ?_
  refine lv_iload hx hb dL_law_166 (lv_at hl 4 rfl) ?_
  refine ib_const hx hb dL_law_168 ?_
  refine ib_add (z := (((5 * n) + 3 : Nat) : Int)) hx hb dL_law_169 (by omega) ?_
  refine st_i (y := iI ((5 * n + 3 : Nat) : Int)) (congrArg iI (by omega)) ?_
  refine va_sld (b := b) (L := L) (xs := xs) hx hb hX hbl hbA hS (iI_vp (i := 5 * n + 3) (by omega) (by omega)) dL_law_170 ?_
  refine st_i (y := iI ((t : Nat) : Int)) ((congrArg xs (iI_cl (by omega))).trans e2) ?_
  refine lv_aload_n hx hb dL_law_171 rfl (lv_at hl 3 rfl) ?_
  have hf9 : cells + 0 ≤ room_1.cells ∧ slots + 0 ≤ room_1.slots := ⟨by show cells + 0 ≤ 1036; omega, by show slots + 0 ≤ 8286; omega⟩
  have hP1 : va_P (dC, dI) vwCl [(o0, .inr (0, [.long (pk a0), .long (pk a1), .long (pkn q w), .int (iI ((w : Nat) : Int))])), (u0, .inl (cJ, 1, .inr (.inl (g))))] H := va_P_l (w1 := [(o0, .inr (0, [.long (pk a0), .long (pk a1), .long (pkn q w), .int (iI ((w : Nat) : Int))])), (u0, .inl (cJ, 1, .inr (.inl (g))))]) (w2 := [(m0, .inr (1, [.int th, .ref t0, .ref k0, .ref p0, .int (iI ((w : Nat) : Int))])), (t0, .inl (cI, 24, .inl (fun j => iI ((tb a0 a1 j : Nat) : Int)))), (k0, .inl (cI, 12, .inl (fun j => iI ((K j : Nat) : Int)))), (p0, .inl (cI, 12, .inl (fun j => iI ((q j : Nat) : Int))))]) hP
  have hD1 : va_D (LA s) [(o0, .inr (0, [.long (pk a0), .long (pk a1), .long (pkn q w), .int (iI ((w : Nat) : Int))])), (u0, .inl (cJ, 1, .inr (.inl (g))))] := va_D_l (w1 := [(o0, .inr (0, [.long (pk a0), .long (pk a1), .long (pkn q w), .int (iI ((w : Nat) : Int))])), (u0, .inl (cJ, 1, .inr (.inl (g))))]) (w2 := [(m0, .inr (1, [.int th, .ref t0, .ref k0, .ref p0, .int (iI ((w : Nat) : Int))])), (t0, .inl (cI, 24, .inl (fun j => iI ((tb a0 a1 j : Nat) : Int)))), (k0, .inl (cI, 12, .inl (fun j => iI ((K j : Nat) : Int)))), (p0, .inl (cI, 12, .inl (fun j => iI ((q j : Nat) : Int))))]) hD
  have hK1 := hK.sub (tys' := [(cJ, .long)]) [0] rfl
  refine wr_call (vx_runSW (As := [.ref o0, .int (iI ((r : Nat) : Int)), .int (iI ((i : Nat) : Int)), .int (iI ((t : Nat) : Int)), .ref u0]) (rest := []) ⟨hx, hb, hml, hown, hts⟩ (mL_put_ok l dC dI cJ o0 u0 a0 a1 q w hp0 hp1 hw hq hqd g r i t (by omega) (by omega) (by omega)) (vx_cwSW 5 hts gL_law_L_put rfl rfl rfl hdL_put ⟨(Nat.le_of_ble_eq_true rfl), (Nat.le_of_ble_eq_true rfl)⟩) (bD_preS hK1 hP1 hD1) rfl rfl hl.1 rfl (lv_room (Nat.le_of_ble_eq_true rfl)) dL_law_172 hf9) hS (fun q9 h => inW_A hD1 h) (fun H locs hPn hz hk hS => ?_)
  have hP : va_P (dC, dI) vwCl ([(o0, .inr (0, [.long (pk (sr0 r (putF (rw_ r a0 a1) i t) a0)), .long (pk (sr1 r (putF (rw_ r a0 a1) i t) a1)), .long (pkn q w), .int (iI ((w : Nat) : Int))])), (u0, .inl (cJ, 1, .inr (.inl (fun _ => (iI ((rw_ r a0 a1 i : Nat) : Int)).toInt64))))] ++ [(m0, .inr (1, [.int th, .ref t0, .ref k0, .ref p0, .int (iI ((w : Nat) : Int))])), (t0, .inl (cI, 24, .inl (fun j => iI ((tb a0 a1 j : Nat) : Int)))), (k0, .inl (cI, 12, .inl (fun j => iI ((K j : Nat) : Int)))), (p0, .inl (cI, 12, .inl (fun j => iI ((q j : Nat) : Int))))]) H := wj_l (w1 := [(o0, .inr (0, [.long (pk a0), .long (pk a1), .long (pkn q w), .int (iI ((w : Nat) : Int))])), (u0, .inl (cJ, 1, .inr (.inl (g))))]) (w2 := [(m0, .inr (1, [.int th, .ref t0, .ref k0, .ref p0, .int (iI ((w : Nat) : Int))])), (t0, .inl (cI, 24, .inl (fun j => iI ((tb a0 a1 j : Nat) : Int)))), (k0, .inl (cI, 12, .inl (fun j => iI ((K j : Nat) : Int)))), (p0, .inl (cI, 12, .inl (fun j => iI ((q j : Nat) : Int))))]) (w1' := [(o0, .inr (0, [.long (pk (sr0 r (putF (rw_ r a0 a1) i t) a0)), .long (pk (sr1 r (putF (rw_ r a0 a1) i t) a1)), .long (pkn q w), .int (iI ((w : Nat) : Int))])), (u0, .inl (cJ, 1, .inr (.inl (fun _ => (iI ((rw_ r a0 a1 i : Nat) : Int)).toInt64))))]) hP hD hPn hk
  have hD : va_D (LA s) ([(o0, .inr (0, [.long (pk (sr0 r (putF (rw_ r a0 a1) i t) a0)), .long (pk (sr1 r (putF (rw_ r a0 a1) i t) a1)), .long (pkn q w), .int (iI ((w : Nat) : Int))])), (u0, .inl (cJ, 1, .inr (.inl (fun _ => (iI ((rw_ r a0 a1 i : Nat) : Int)).toInt64))))] ++ [(m0, .inr (1, [.int th, .ref t0, .ref k0, .ref p0, .int (iI ((w : Nat) : Int))])), (t0, .inl (cI, 24, .inl (fun j => iI ((tb a0 a1 j : Nat) : Int)))), (k0, .inl (cI, 12, .inl (fun j => iI ((K j : Nat) : Int)))), (p0, .inl (cI, 12, .inl (fun j => iI ((q j : Nat) : Int))))]) := va_D_same (w := ([(o0, .inr (0, [.long (pk a0), .long (pk a1), .long (pkn q w), .int (iI ((w : Nat) : Int))])), (u0, .inl (cJ, 1, .inr (.inl (g))))] ++ [(m0, .inr (1, [.int th, .ref t0, .ref k0, .ref p0, .int (iI ((w : Nat) : Int))])), (t0, .inl (cI, 24, .inl (fun j => iI ((tb a0 a1 j : Nat) : Int)))), (k0, .inl (cI, 12, .inl (fun j => iI ((K j : Nat) : Int)))), (p0, .inl (cI, 12, .inl (fun j => iI ((q j : Nat) : Int))))])) (Eq.trans (b := [o0, u0, m0, t0, k0, p0]) rfl rfl) hD
  refine va_forget hS.2.2 ?_
  have hS := va_S_nil hS
  refine W.widen (k := cells + 1) (n := slots + 6) (by omega) (by omega) ?_
  refine lv_istore (lv' := [(5, .int (iI 0)), (0, .ref b), (1, .ref o0), (2, .ref m0), (3, .ref u0), (4, .int (iI ((5 * n : Nat) : Int)))]) hx hb dL_law_175 hl (by decide) rfl (fun ls hl => ?_)
  refine lv_aload_n hx hb dL_law_177 rfl (lv_at hl 3 rfl) ?_
  refine lv_aload_n hx hb dL_law_178 rfl (lv_at hl 1 rfl) ?_
  refine lv_iload hx hb dL_law_179 (lv_at hl 5 rfl) ?_
  refine ib_const hx hb dL_law_181 ?_
  refine ib_add (z := (((5 * n) + 1 : Nat) : Int)) hx hb dL_law_182 (by omega) ?_
  refine st_i (y := iI ((5 * n + 1 : Nat) : Int)) (congrArg iI (by omega)) ?_
  refine va_sld (b := b) (L := L) (xs := xs) hx hb hX hbl hbA hS (iI_vp (i := 5 * n + 1) (by omega) (by omega)) dL_law_183 ?_
  refine st_i (y := iI ((r : Nat) : Int)) ((congrArg xs (iI_cl (by omega))).trans e0) ?_
  refine lv_aload_n hx hb dL_law_184 rfl (lv_at hl 1 rfl) ?_
  refine lv_iload hx hb dL_law_185 (lv_at hl 5 rfl) ?_
  refine ib_const hx hb dL_law_187 ?_
  refine ib_add (z := (((5 * n) + 2 : Nat) : Int)) hx hb dL_law_188 (by omega) ?_
  refine st_i (y := iI ((5 * n + 2 : Nat) : Int)) (congrArg iI (by omega)) ?_
  refine va_sld (b := b) (L := L) (xs := xs) hx hb hX hbl hbA hS (iI_vp (i := 5 * n + 2) (by omega) (by omega)) dL_law_189 ?_
  refine st_i (y := iI ((i : Nat) : Int)) ((congrArg xs (iI_cl (by omega))).trans e1) ?_
  refine lv_aload_n hx hb dL_law_190 rfl (lv_at hl 1 rfl) ?_
  refine lv_iload hx hb dL_law_191 (lv_at hl 5 rfl) ?_
  refine ib_const hx hb dL_law_193 ?_
  refine ib_add (z := (((5 * n) + 3 : Nat) : Int)) hx hb dL_law_194 (by omega) ?_
  refine st_i (y := iI ((5 * n + 3 : Nat) : Int)) (congrArg iI (by omega)) ?_
  refine va_sld (b := b) (L := L) (xs := xs) hx hb hX hbl hbA hS (iI_vp (i := 5 * n + 3) (by omega) (by omega)) dL_law_195 ?_
  refine st_i (y := iI ((t : Nat) : Int)) ((congrArg xs (iI_cl (by omega))).trans e2) ?_
  have hP2 : va_P (dC, dI) vwCl [(m0, .inr (1, [.int th, .ref t0, .ref k0, .ref p0, .int (iI ((w : Nat) : Int))])), (t0, .inl (cI, 24, .inl (fun j => iI ((tb a0 a1 j : Nat) : Int)))), (k0, .inl (cI, 12, .inl (fun j => iI ((K j : Nat) : Int)))), (p0, .inl (cI, 12, .inl (fun j => iI ((q j : Nat) : Int))))] H := va_P_r (w1 := [(o0, .inr (0, [.long (pk (sr0 r (putF (rw_ r a0 a1) i t) a0)), .long (pk (sr1 r (putF (rw_ r a0 a1) i t) a1)), .long (pkn q w), .int (iI ((w : Nat) : Int))])), (u0, .inl (cJ, 1, .inr (.inl (fun _ => (iI ((rw_ r a0 a1 i : Nat) : Int)).toInt64))))]) (w2 := [(m0, .inr (1, [.int th, .ref t0, .ref k0, .ref p0, .int (iI ((w : Nat) : Int))])), (t0, .inl (cI, 24, .inl (fun j => iI ((tb a0 a1 j : Nat) : Int)))), (k0, .inl (cI, 12, .inl (fun j => iI ((K j : Nat) : Int)))), (p0, .inl (cI, 12, .inl (fun j => iI ((q j : Nat) : Int))))]) hP
  have hK2 := hK.sub (tys' := [(cI, .int)]) [1] rfl
  have hf9 : cells + 1 + 0 ≤ room_1.cells ∧ slots + 6 + 0 ≤ room_1.slots := ⟨by show cells + 1 + 0 ≤ 1036; omega, by show slots + 6 + 0 ≤ 8286; omega⟩
  have hD2 : va_D (LA s) [(m0, .inr (1, [.int th, .ref t0, .ref k0, .ref p0, .int (iI ((w : Nat) : Int))])), (t0, .inl (cI, 24, .inl (fun j => iI ((tb a0 a1 j : Nat) : Int)))), (k0, .inl (cI, 12, .inl (fun j => iI ((K j : Nat) : Int)))), (p0, .inl (cI, 12, .inl (fun j => iI ((q j : Nat) : Int))))] := va_D_r (w1 := [(o0, .inr (0, [.long (pk (sr0 r (putF (rw_ r a0 a1) i t) a0)), .long (pk (sr1 r (putF (rw_ r a0 a1) i t) a1)), .long (pkn q w), .int (iI ((w : Nat) : Int))])), (u0, .inl (cJ, 1, .inr (.inl (fun _ => (iI ((rw_ r a0 a1 i : Nat) : Int)).toInt64))))]) (w2 := [(m0, .inr (1, [.int th, .ref t0, .ref k0, .ref p0, .int (iI ((w : Nat) : Int))])), (t0, .inl (cI, 24, .inl (fun j => iI ((tb a0 a1 j : Nat) : Int)))), (k0, .inl (cI, 12, .inl (fun j => iI ((K j : Nat) : Int)))), (p0, .inl (cI, 12, .inl (fun j => iI ((q j : Nat) : Int))))]) hD
  refine wr_call (va_runV (As := [.int (iI ((r : Nat) : Int)), .int (iI ((i : Nat) : Int)), .int (iI ((t : Nat) : Int))]) (rest := []) ⟨hx, hb, hml, hown, hts⟩ (mX1_put_ok l dC dI cI m0 t0 k0 p0 a0 a1 K q th w hp0.1 hp1.1 hw hq r i t (by omega) (by omega) (by omega)) (cwV 3 hts gL_law_X1_put rfl rfl rfl hvX1_put ⟨(Nat.le_of_ble_eq_true rfl), (Nat.le_of_ble_eq_true rfl)⟩) (bD_pre (ci := 1) (q0 := 0) hK2 hP2 hD2 rfl rfl rfl) rfl rfl hl.1 rfl (lv_room (Nat.le_of_ble_eq_true rfl)) dL_law_196 hf9) hS (fun q9 h => inW_A hD2 h) (fun H locs hPn hz hk hS => ?_)
  have hP : va_P (dC, dI) vwCl ([(o0, .inr (0, [.long (pk (sr0 r (putF (rw_ r a0 a1) i t) a0)), .long (pk (sr1 r (putF (rw_ r a0 a1) i t) a1)), .long (pkn q w), .int (iI ((w : Nat) : Int))])), (u0, .inl (cJ, 1, .inr (.inl (fun _ => (iI ((rw_ r a0 a1 i : Nat) : Int)).toInt64))))] ++ [(m0, .inr (1, [.int (iI 0), .ref t0, .ref k0, .ref p0, .int (iI ((w : Nat) : Int))])), (t0, .inl (cI, 24, .inl (fun j => iI ((tb (sr0 r (putF (rw_ r a0 a1) i t) a0) (sr1 r (putF (rw_ r a0 a1) i t) a1) j : Nat) : Int)))), (k0, .inl (cI, 12, .inl (fun j => iI ((K j : Nat) : Int)))), (p0, .inl (cI, 12, .inl (fun j => iI ((q j : Nat) : Int))))]) H := wj_r (w1 := [(o0, .inr (0, [.long (pk (sr0 r (putF (rw_ r a0 a1) i t) a0)), .long (pk (sr1 r (putF (rw_ r a0 a1) i t) a1)), .long (pkn q w), .int (iI ((w : Nat) : Int))])), (u0, .inl (cJ, 1, .inr (.inl (fun _ => (iI ((rw_ r a0 a1 i : Nat) : Int)).toInt64))))]) (w2 := [(m0, .inr (1, [.int th, .ref t0, .ref k0, .ref p0, .int (iI ((w : Nat) : Int))])), (t0, .inl (cI, 24, .inl (fun j => iI ((tb a0 a1 j : Nat) : Int)))), (k0, .inl (cI, 12, .inl (fun j => iI ((K j : Nat) : Int)))), (p0, .inl (cI, 12, .inl (fun j => iI ((q j : Nat) : Int))))]) (w2' := [(m0, .inr (1, [.int (iI 0), .ref t0, .ref k0, .ref p0, .int (iI ((w : Nat) : Int))])), (t0, .inl (cI, 24, .inl (fun j => iI ((tb (sr0 r (putF (rw_ r a0 a1) i t) a0) (sr1 r (putF (rw_ r a0 a1) i t) a1) j : Nat) : Int)))), (k0, .inl (cI, 12, .inl (fun j => iI ((K j : Nat) : Int)))), (p0, .inl (cI, 12, .inl (fun j => iI ((q j : Nat) : Int))))]) hP hD hPn hk
  have hD : va_D (LA s) ([(o0, .inr (0, [.long (pk (sr0 r (putF (rw_ r a0 a1) i t) a0)), .long (pk (sr1 r (putF (rw_ r a0 a1) i t) a1)), .long (pkn q w), .int (iI ((w : Nat) : Int))])), (u0, .inl (cJ, 1, .inr (.inl (fun _ => (iI ((rw_ r a0 a1 i : Nat) : Int)).toInt64))))] ++ [(m0, .inr (1, [.int (iI 0), .ref t0, .ref k0, .ref p0, .int (iI ((w : Nat) : Int))])), (t0, .inl (cI, 24, .inl (fun j => iI ((tb (sr0 r (putF (rw_ r a0 a1) i t) a0) (sr1 r (putF (rw_ r a0 a1) i t) a1) j : Nat) : Int)))), (k0, .inl (cI, 12, .inl (fun j => iI ((K j : Nat) : Int)))), (p0, .inl (cI, 12, .inl (fun j => iI ((q j : Nat) : Int))))]) := va_D_same (w := ([(o0, .inr (0, [.long (pk (sr0 r (putF (rw_ r a0 a1) i t) a0)), .long (pk (sr1 r (putF (rw_ r a0 a1) i t) a1)), .long (pkn q w), .int (iI ((w : Nat) : Int))])), (u0, .inl (cJ, 1, .inr (.inl (fun _ => (iI ((rw_ r a0 a1 i : Nat) : Int)).toInt64))))] ++ [(m0, .inr (1, [.int th, .ref t0, .ref k0, .ref p0, .int (iI ((w : Nat) : Int))])), (t0, .inl (cI, 24, .inl (fun j => iI ((tb a0 a1 j : Nat) : Int)))), (k0, .inl (cI, 12, .inl (fun j => iI ((K j : Nat) : Int)))), (p0, .inl (cI, 12, .inl (fun j => iI ((q j : Nat) : Int))))])) (Eq.trans (b := [o0, u0, m0, t0, k0, p0]) rfl rfl) hD
  refine va_forget hS.2.2 ?_
  have hS := va_S_nil hS
  refine lv_istore (lv' := [(6, .int (iI ((rw_ r a0 a1 i : Nat) : Int))), (5, .int (iI 0)), (0, .ref b), (1, .ref o0), (2, .ref m0), (3, .ref u0), (4, .int (iI ((5 * n : Nat) : Int)))]) hx hb dL_law_199 hl (by decide) rfl (fun ls hl => ?_)
  refine lv_aload_n hx hb dL_law_201 rfl (lv_at hl 4 rfl) ?_
  have hP2 : va_P (dC, dI) vwCl [(m0, .inr (1, [.int (iI 0), .ref t0, .ref k0, .ref p0, .int (iI ((w : Nat) : Int))])), (t0, .inl (cI, 24, .inl (fun j => iI ((tb (sr0 r (putF (rw_ r a0 a1) i t) a0) (sr1 r (putF (rw_ r a0 a1) i t) a1) j : Nat) : Int)))), (k0, .inl (cI, 12, .inl (fun j => iI ((K j : Nat) : Int)))), (p0, .inl (cI, 12, .inl (fun j => iI ((q j : Nat) : Int))))] H := va_P_r (w1 := [(o0, .inr (0, [.long (pk (sr0 r (putF (rw_ r a0 a1) i t) a0)), .long (pk (sr1 r (putF (rw_ r a0 a1) i t) a1)), .long (pkn q w), .int (iI ((w : Nat) : Int))])), (u0, .inl (cJ, 1, .inr (.inl (fun _ => (iI ((rw_ r a0 a1 i : Nat) : Int)).toInt64))))]) (w2 := [(m0, .inr (1, [.int (iI 0), .ref t0, .ref k0, .ref p0, .int (iI ((w : Nat) : Int))])), (t0, .inl (cI, 24, .inl (fun j => iI ((tb (sr0 r (putF (rw_ r a0 a1) i t) a0) (sr1 r (putF (rw_ r a0 a1) i t) a1) j : Nat) : Int)))), (k0, .inl (cI, 12, .inl (fun j => iI ((K j : Nat) : Int)))), (p0, .inl (cI, 12, .inl (fun j => iI ((q j : Nat) : Int))))]) hP
  have hK2 := hK.sub (tys' := [(cI, .int)]) [1] rfl
  have hf9 : cells + 1 + 0 ≤ room_1.cells ∧ slots + 6 + 0 ≤ room_1.slots := ⟨by show cells + 1 + 0 ≤ 1036; omega, by show slots + 6 + 0 ≤ 8286; omega⟩
  refine rd_call (va_runV (As := []) (rest := []) ⟨hx, hb, hml, hown, hts⟩ (mX1_thrown l dC dI cI m0 t0 k0 p0 (sr0 r (putF (rw_ r a0 a1) i t) a0) (sr1 r (putF (rw_ r a0 a1) i t) a1) K q (iI 0) w (sr0_Pm r hF hp0).1 (sr1_Pm r hF hp1).1 hw hq) (cwV 0 hts gL_law_X1_thrown rfl rfl rfl hvX1_thrown ⟨(Nat.le_of_ble_eq_true rfl), (Nat.le_of_ble_eq_true rfl)⟩) (bW_pre (ci := 1) (q0 := 0) hK2 hP2 rfl rfl rfl) rfl rfl hl.1 rfl (lv_room (Nat.le_of_ble_eq_true rfl)) dL_law_202 hf9) ?_
  refine lv_iload hx hb dL_law_205 (lv_at hl 1 rfl) ?_
  refine ib_icmp_eq (tgt := 212) hx hb dL_law_207 (by decide) ⟨by omega, by omega⟩ ⟨by omega, by omega⟩ (fun c_207 => ?_) (fun c_207 => absurd c_207 (by decide))
  refine lv_iload hx hb dL_law_212 (lv_at hl 1 rfl) ?_
  refine ib_if_ne (tgt := 229) hx hb dL_law_214 (by decide) ⟨by omega, by omega⟩ (fun c_214 => absurd c_214 (by decide)) (fun c_214 => ?_)
  refine lv_aload_n hx hb dL_law_217 rfl (lv_at hl 5 rfl) ?_
  refine ib_const hx hb dL_law_218 ?_
  refine va_lald hx hb hK hP 1 0 rfl rfl vp0 dL_law_219 ?_
  refine st_l (y := (iI ((rw_ r a0 a1 i : Nat) : Int)).toInt64) rfl ?_
  refine lv_iload hx hb dL_law_220 (lv_at hl 0 rfl) ?_
  refine lv_i2l hx hb dL_law_222 rfl ?_
  refine W.lcmp hx hb dL_law_223 ?_
  refine bl_eq (tgt := 229) hx hb dL_law_224 (by decide) (fun _ => ?_) (fun h => absurd rfl h)
  refine lv_goto (tgt := 1833) hx hb dL_law_229 (by decide) ?_
  exact kk (sr0 r (putF (rw_ r a0 a1) i t) a0) (sr1 r (putF (rw_ r a0 a1) i t) a1) q K w (iI 0) (fun _ => (iI ((rw_ r a0 a1 i : Nat) : Int)).toInt64) H ls ⟨(sr0_Pm r hF hp0), (sr1_Pm r hF hp1), hw, hq, hqd, hP, hD, hS⟩ (lv_sub hl [2, 3, 4, 5, 6] rfl)

set_option maxHeartbeats 4000000 in
set_option maxRecDepth 100000 in
theorem law_c1 {p : Program} {l : Launch} {e : Env} {s : State} {m : MethodId} {below : List Frame} {meth : Method} {c : Code} {Q : State → Prop} {dC : Nat → ClassId} {dI : Nat → Nat → Nat} {cI cJ : ClassId} {b L : Nat} {xs : Nat → Int32} (C : LC p l s m meth c (dC, dI) cI cJ b L xs) {o0 u0 m0 t0 k0 p0 : Nat} {a0 a1 q K : Nat → Nat} {w : Nat} {th : Int32} {g : Nat → Int64} {H : Heap} (hI : LI s (dC, dI) cI cJ o0 u0 m0 t0 k0 p0 a0 a1 q K w th g H) {n cells slots : Nat} (hc1 : cells + 1 ≤ 1036) (hc2 : slots + 6 ≤ 8286) (hn : 5 * n + 5 ≤ L) (hL : L ≤ 2560) {ls : Array Slot} (hl : lv_has ls 8 [(0, .ref b), (1, .ref o0), (2, .ref m0), (3, .ref u0), (4, .int (iI ((5 * n : Nat) : Int)))])
    (kk : ∀ (a0 a1 q K : Nat → Nat) (w : Nat) (th : Int32) (g : Nat → Int64) (H : Heap) (ls : Array Slot), LI s (dC, dI) cI cJ o0 u0 m0 t0 k0 p0 a0 a1 q K w th g H → lv_has ls 8 [(0, .ref b), (1, .ref o0), (2, .ref m0), (3, .ref u0), (4, .int (iI ((5 * n : Nat) : Int)))] → W p l e room_1 s m #[Value.ref b] below meth c H [] (cells + 1) (slots + 6) Q (F0 m 1833 ls [])) : W p l e room_1 s m #[Value.ref b] below meth c H [] cells slots Q (F0 m 232 ls []) := by
  obtain ⟨hx, hb, hml, hown, hts, hK, hG0, hN, hX, hbl, hfl⟩ := C
  obtain ⟨hp0, hp1, hw, hq, hqd, hP, hD, hS⟩ := hI
  have hbA : ¬ LA s b := Nat.not_le.mpr hbl
  obtain ⟨z0, hz0, e0⟩ := ex_i (xs (5 * n + 1))
  obtain ⟨z1, hz1, e1⟩ := ex_i (xs (5 * n + 2))
  obtain ⟨z2, hz2, e2⟩ := ex_i (xs (5 * n + 3))
  obtain ⟨z3, hz3, e3⟩ := ex_i (xs (5 * n + 4))
  have hza0 := hz0.1
  have hzb0 := hz0.2
  have hza1 := hz1.1
  have hzb1 := hz1.2
  have hza2 := hz2.1
  have hzb2 := hz2.2
  have hza3 := hz3.1
  have hzb3 := hz3.2
  by_cases b1 : ¬ ((z0 = 0 ∨ z0 = 1) ∧ (z3 = 0 ∨ z3 = 1))
  · skip
    refine lv_aload_n hx hb dL_law_232 rfl (lv_at hl 1 rfl) ?_
    refine lv_aload_n hx hb dL_law_233 rfl (lv_at hl 0 rfl) ?_
    refine lv_iload hx hb dL_law_234 (lv_at hl 4 rfl) ?_
    refine ib_const hx hb dL_law_236 ?_
    refine ib_add (z := (((5 * n) + 1 : Nat) : Int)) hx hb dL_law_237 (by omega) ?_
    refine st_i (y := iI ((5 * n + 1 : Nat) : Int)) (congrArg iI (by omega)) ?_
    refine va_sld (b := b) (L := L) (xs := xs) hx hb hX hbl hbA hS (iI_vp (i := 5 * n + 1) (by omega) (by omega)) dL_law_238 ?_
    refine st_i (y := iI z0) ((congrArg xs (iI_cl (by omega))).trans e0) ?_
    refine lv_aload_n hx hb dL_law_239 rfl (lv_at hl 0 rfl) ?_
    refine lv_iload hx hb dL_law_240 (lv_at hl 4 rfl) ?_
    refine ib_const hx hb dL_law_242 ?_
    refine ib_add (z := (((5 * n) + 2 : Nat) : Int)) hx hb dL_law_243 (by omega) ?_
    refine st_i (y := iI ((5 * n + 2 : Nat) : Int)) (congrArg iI (by omega)) ?_
    refine va_sld (b := b) (L := L) (xs := xs) hx hb hX hbl hbA hS (iI_vp (i := 5 * n + 2) (by omega) (by omega)) dL_law_244 ?_
    refine st_i (y := iI z1) ((congrArg xs (iI_cl (by omega))).trans e1) ?_
    refine lv_aload_n hx hb dL_law_245 rfl (lv_at hl 0 rfl) ?_
    refine lv_iload hx hb dL_law_246 (lv_at hl 4 rfl) ?_
    refine ib_const hx hb dL_law_248 ?_
    refine ib_add (z := (((5 * n) + 3 : Nat) : Int)) hx hb dL_law_249 (by omega) ?_
    refine st_i (y := iI ((5 * n + 3 : Nat) : Int)) (congrArg iI (by omega)) ?_
    refine va_sld (b := b) (L := L) (xs := xs) hx hb hX hbl hbA hS (iI_vp (i := 5 * n + 3) (by omega) (by omega)) dL_law_250 ?_
    refine st_i (y := iI z2) ((congrArg xs (iI_cl (by omega))).trans e2) ?_
    refine lv_aload_n hx hb dL_law_251 rfl (lv_at hl 0 rfl) ?_
    refine lv_iload hx hb dL_law_252 (lv_at hl 4 rfl) ?_
    refine ib_const hx hb dL_law_254 ?_
    refine ib_add (z := (((5 * n) + 4 : Nat) : Int)) hx hb dL_law_255 (by omega) ?_
    refine st_i (y := iI ((5 * n + 4 : Nat) : Int)) (congrArg iI (by omega)) ?_
    refine va_sld (b := b) (L := L) (xs := xs) hx hb hX hbl hbA hS (iI_vp (i := 5 * n + 4) (by omega) (by omega)) dL_law_256 ?_
    refine st_i (y := iI z3) ((congrArg xs (iI_cl (by omega))).trans e3) ?_
    refine lv_aload_n hx hb dL_law_257 rfl (lv_at hl 3 rfl) ?_
    have hf9 : cells + 1 ≤ room_1.cells ∧ slots + 6 ≤ room_1.slots := ⟨by show cells + 1 ≤ 1036; omega, by show slots + 6 ≤ 8286; omega⟩
    have hP1 : va_P (dC, dI) vwCl [(o0, .inr (0, [.long (pk a0), .long (pk a1), .long (pkn q w), .int (iI ((w : Nat) : Int))]))] H := va_P_l (w1 := [(o0, .inr (0, [.long (pk a0), .long (pk a1), .long (pkn q w), .int (iI ((w : Nat) : Int))]))]) (w2 := [(u0, .inl (cJ, 1, .inr (.inl (g)))), (m0, .inr (1, [.int th, .ref t0, .ref k0, .ref p0, .int (iI ((w : Nat) : Int))])), (t0, .inl (cI, 24, .inl (fun j => iI ((tb a0 a1 j : Nat) : Int)))), (k0, .inl (cI, 12, .inl (fun j => iI ((K j : Nat) : Int)))), (p0, .inl (cI, 12, .inl (fun j => iI ((q j : Nat) : Int))))]) hP
    have hK1 := hK.sub (tys' := []) [] rfl
    refine rdK_call (vx_runSW (As := [.ref o0, .int (iI z0), .int (iI z1), .int (iI z2), .int (iI z3), .ref u0]) (rest := []) ⟨hx, hb, hml, hown, hts⟩ (mL_take_x1 l hfl dC dI o0 a0 a1 q w hp0 hp1 hw hq hqd u0 z0 z1 z2 z3 hz0 hz1 hz2 hz3 b1) (vx_cwSW 6 hts gL_law_L_take rfl rfl rfl hdL_take ⟨(Nat.le_of_ble_eq_true rfl), (Nat.le_of_ble_eq_true rfl)⟩) (bY_preS hK1 hP1 (hG0.at hS) hN) rfl rfl hl.1 rfl (lv_room (Nat.le_of_ble_eq_true rfl)) dL_law_258 hf9) (fun H hz hk => ?_)
    have hP : va_P (dC, dI) vwCl ([(o0, .inr (0, [.long (pk a0), .long (pk a1), .long (pkn q w), .int (iI ((w : Nat) : Int))])), (u0, .inl (cJ, 1, .inr (.inl (g))))] ++ [(m0, .inr (1, [.int th, .ref t0, .ref k0, .ref p0, .int (iI ((w : Nat) : Int))])), (t0, .inl (cI, 24, .inl (fun j => iI ((tb a0 a1 j : Nat) : Int)))), (k0, .inl (cI, 12, .inl (fun j => iI ((K j : Nat) : Int)))), (p0, .inl (cI, 12, .inl (fun j => iI ((q j : Nat) : Int))))]) H := va_P_new hP hk
    have hS := va_S_new hS hz hk
    refine lv_istore (lv' := [(5, .int (iI 1)), (0, .ref b), (1, .ref o0), (2, .ref m0), (3, .ref u0), (4, .int (iI ((5 * n : Nat) : Int)))]) hx hb dL_law_261 hl (by decide) rfl (fun ls hl => ?_)
    refine lv_aload_n hx hb dL_law_263 rfl (lv_at hl 3 rfl) ?_
    refine lv_aload_n hx hb dL_law_264 rfl (lv_at hl 1 rfl) ?_
    refine lv_iload hx hb dL_law_265 (lv_at hl 5 rfl) ?_
    refine ib_const hx hb dL_law_267 ?_
    refine ib_add (z := (((5 * n) + 1 : Nat) : Int)) hx hb dL_law_268 (by omega) ?_
    refine st_i (y := iI ((5 * n + 1 : Nat) : Int)) (congrArg iI (by omega)) ?_
    refine va_sld (b := b) (L := L) (xs := xs) hx hb hX hbl hbA hS (iI_vp (i := 5 * n + 1) (by omega) (by omega)) dL_law_269 ?_
    refine st_i (y := iI z0) ((congrArg xs (iI_cl (by omega))).trans e0) ?_
    refine lv_aload_n hx hb dL_law_270 rfl (lv_at hl 1 rfl) ?_
    refine lv_iload hx hb dL_law_271 (lv_at hl 5 rfl) ?_
    refine ib_const hx hb dL_law_273 ?_
    refine ib_add (z := (((5 * n) + 2 : Nat) : Int)) hx hb dL_law_274 (by omega) ?_
    refine st_i (y := iI ((5 * n + 2 : Nat) : Int)) (congrArg iI (by omega)) ?_
    refine va_sld (b := b) (L := L) (xs := xs) hx hb hX hbl hbA hS (iI_vp (i := 5 * n + 2) (by omega) (by omega)) dL_law_275 ?_
    refine st_i (y := iI z1) ((congrArg xs (iI_cl (by omega))).trans e1) ?_
    refine lv_aload_n hx hb dL_law_276 rfl (lv_at hl 1 rfl) ?_
    refine lv_iload hx hb dL_law_277 (lv_at hl 5 rfl) ?_
    refine ib_const hx hb dL_law_279 ?_
    refine ib_add (z := (((5 * n) + 3 : Nat) : Int)) hx hb dL_law_280 (by omega) ?_
    refine st_i (y := iI ((5 * n + 3 : Nat) : Int)) (congrArg iI (by omega)) ?_
    refine va_sld (b := b) (L := L) (xs := xs) hx hb hX hbl hbA hS (iI_vp (i := 5 * n + 3) (by omega) (by omega)) dL_law_281 ?_
    refine st_i (y := iI z2) ((congrArg xs (iI_cl (by omega))).trans e2) ?_
    refine lv_aload_n hx hb dL_law_282 rfl (lv_at hl 1 rfl) ?_
    refine lv_iload hx hb dL_law_283 (lv_at hl 5 rfl) ?_
    refine ib_const hx hb dL_law_285 ?_
    refine ib_add (z := (((5 * n) + 4 : Nat) : Int)) hx hb dL_law_286 (by omega) ?_
    refine st_i (y := iI ((5 * n + 4 : Nat) : Int)) (congrArg iI (by omega)) ?_
    refine va_sld (b := b) (L := L) (xs := xs) hx hb hX hbl hbA hS (iI_vp (i := 5 * n + 4) (by omega) (by omega)) dL_law_287 ?_
    refine st_i (y := iI z3) ((congrArg xs (iI_cl (by omega))).trans e3) ?_
    have hP2 : va_P (dC, dI) vwCl [(m0, .inr (1, [.int th, .ref t0, .ref k0, .ref p0, .int (iI ((w : Nat) : Int))])), (t0, .inl (cI, 24, .inl (fun j => iI ((tb a0 a1 j : Nat) : Int)))), (k0, .inl (cI, 12, .inl (fun j => iI ((K j : Nat) : Int)))), (p0, .inl (cI, 12, .inl (fun j => iI ((q j : Nat) : Int))))] H := va_P_r (w1 := [(o0, .inr (0, [.long (pk a0), .long (pk a1), .long (pkn q w), .int (iI ((w : Nat) : Int))])), (u0, .inl (cJ, 1, .inr (.inl (g))))]) (w2 := [(m0, .inr (1, [.int th, .ref t0, .ref k0, .ref p0, .int (iI ((w : Nat) : Int))])), (t0, .inl (cI, 24, .inl (fun j => iI ((tb a0 a1 j : Nat) : Int)))), (k0, .inl (cI, 12, .inl (fun j => iI ((K j : Nat) : Int)))), (p0, .inl (cI, 12, .inl (fun j => iI ((q j : Nat) : Int))))]) hP
    have hK2 := hK.sub (tys' := [(cI, .int)]) [1] rfl
    have hf9 : cells + 1 + 0 ≤ room_1.cells ∧ slots + 6 + 0 ≤ room_1.slots := ⟨by show cells + 1 + 0 ≤ 1036; omega, by show slots + 6 + 0 ≤ 8286; omega⟩
    have hD2 : va_D (LA s) [(m0, .inr (1, [.int th, .ref t0, .ref k0, .ref p0, .int (iI ((w : Nat) : Int))])), (t0, .inl (cI, 24, .inl (fun j => iI ((tb a0 a1 j : Nat) : Int)))), (k0, .inl (cI, 12, .inl (fun j => iI ((K j : Nat) : Int)))), (p0, .inl (cI, 12, .inl (fun j => iI ((q j : Nat) : Int))))] := va_D_r (w1 := [(o0, .inr (0, [.long (pk a0), .long (pk a1), .long (pkn q w), .int (iI ((w : Nat) : Int))])), (u0, .inl (cJ, 1, .inr (.inl (g))))]) (w2 := [(m0, .inr (1, [.int th, .ref t0, .ref k0, .ref p0, .int (iI ((w : Nat) : Int))])), (t0, .inl (cI, 24, .inl (fun j => iI ((tb a0 a1 j : Nat) : Int)))), (k0, .inl (cI, 12, .inl (fun j => iI ((K j : Nat) : Int)))), (p0, .inl (cI, 12, .inl (fun j => iI ((q j : Nat) : Int))))]) hD
    refine wr_call (va_runV (As := [.int (iI z0), .int (iI z1), .int (iI z2), .int (iI z3)]) (rest := []) ⟨hx, hb, hml, hown, hts⟩ (mX1_take_x1 l dC dI cI m0 t0 k0 p0 a0 a1 K q th w hp0.1 hp1.1 hw hq z0 z1 z2 z3 hz0 hz1 hz2 hz3 b1) (cwV 4 hts gL_law_X1_take rfl rfl rfl hvX1_take ⟨(Nat.le_of_ble_eq_true rfl), (Nat.le_of_ble_eq_true rfl)⟩) (bD_pre (ci := 1) (q0 := 0) hK2 hP2 hD2 rfl rfl rfl) rfl rfl hl.1 rfl (lv_room (Nat.le_of_ble_eq_true rfl)) dL_law_288 hf9) hS (fun q9 h => inW_A hD2 h) (fun H locs hPn hz hk hS => ?_)
    have hP : va_P (dC, dI) vwCl ([(o0, .inr (0, [.long (pk a0), .long (pk a1), .long (pkn q w), .int (iI ((w : Nat) : Int))])), (u0, .inl (cJ, 1, .inr (.inl (g))))] ++ [(m0, .inr (1, [.int (iI 1), .ref t0, .ref k0, .ref p0, .int (iI ((w : Nat) : Int))])), (t0, .inl (cI, 24, .inl (fun j => iI ((tb a0 a1 j : Nat) : Int)))), (k0, .inl (cI, 12, .inl (fun j => iI ((K j : Nat) : Int)))), (p0, .inl (cI, 12, .inl (fun j => iI ((q j : Nat) : Int))))]) H := wj_r (w1 := [(o0, .inr (0, [.long (pk a0), .long (pk a1), .long (pkn q w), .int (iI ((w : Nat) : Int))])), (u0, .inl (cJ, 1, .inr (.inl (g))))]) (w2 := [(m0, .inr (1, [.int th, .ref t0, .ref k0, .ref p0, .int (iI ((w : Nat) : Int))])), (t0, .inl (cI, 24, .inl (fun j => iI ((tb a0 a1 j : Nat) : Int)))), (k0, .inl (cI, 12, .inl (fun j => iI ((K j : Nat) : Int)))), (p0, .inl (cI, 12, .inl (fun j => iI ((q j : Nat) : Int))))]) (w2' := [(m0, .inr (1, [.int (iI 1), .ref t0, .ref k0, .ref p0, .int (iI ((w : Nat) : Int))])), (t0, .inl (cI, 24, .inl (fun j => iI ((tb a0 a1 j : Nat) : Int)))), (k0, .inl (cI, 12, .inl (fun j => iI ((K j : Nat) : Int)))), (p0, .inl (cI, 12, .inl (fun j => iI ((q j : Nat) : Int))))]) hP hD hPn hk
    have hD : va_D (LA s) ([(o0, .inr (0, [.long (pk a0), .long (pk a1), .long (pkn q w), .int (iI ((w : Nat) : Int))])), (u0, .inl (cJ, 1, .inr (.inl (g))))] ++ [(m0, .inr (1, [.int (iI 1), .ref t0, .ref k0, .ref p0, .int (iI ((w : Nat) : Int))])), (t0, .inl (cI, 24, .inl (fun j => iI ((tb a0 a1 j : Nat) : Int)))), (k0, .inl (cI, 12, .inl (fun j => iI ((K j : Nat) : Int)))), (p0, .inl (cI, 12, .inl (fun j => iI ((q j : Nat) : Int))))]) := va_D_same (w := ([(o0, .inr (0, [.long (pk a0), .long (pk a1), .long (pkn q w), .int (iI ((w : Nat) : Int))])), (u0, .inl (cJ, 1, .inr (.inl (g))))] ++ [(m0, .inr (1, [.int th, .ref t0, .ref k0, .ref p0, .int (iI ((w : Nat) : Int))])), (t0, .inl (cI, 24, .inl (fun j => iI ((tb a0 a1 j : Nat) : Int)))), (k0, .inl (cI, 12, .inl (fun j => iI ((K j : Nat) : Int)))), (p0, .inl (cI, 12, .inl (fun j => iI ((q j : Nat) : Int))))])) (Eq.trans (b := [o0, u0, m0, t0, k0, p0]) rfl rfl) hD
    refine va_forget hS.2.2 ?_
    have hS := va_S_nil hS
    refine lv_istore (lv' := [(6, .int (iI 0)), (5, .int (iI 1)), (0, .ref b), (1, .ref o0), (2, .ref m0), (3, .ref u0), (4, .int (iI ((5 * n : Nat) : Int)))]) hx hb dL_law_291 hl (by decide) rfl (fun ls hl => ?_)
    refine lv_aload_n hx hb dL_law_293 rfl (lv_at hl 4 rfl) ?_
    have hP2 : va_P (dC, dI) vwCl [(m0, .inr (1, [.int (iI 1), .ref t0, .ref k0, .ref p0, .int (iI ((w : Nat) : Int))])), (t0, .inl (cI, 24, .inl (fun j => iI ((tb a0 a1 j : Nat) : Int)))), (k0, .inl (cI, 12, .inl (fun j => iI ((K j : Nat) : Int)))), (p0, .inl (cI, 12, .inl (fun j => iI ((q j : Nat) : Int))))] H := va_P_r (w1 := [(o0, .inr (0, [.long (pk a0), .long (pk a1), .long (pkn q w), .int (iI ((w : Nat) : Int))])), (u0, .inl (cJ, 1, .inr (.inl (g))))]) (w2 := [(m0, .inr (1, [.int (iI 1), .ref t0, .ref k0, .ref p0, .int (iI ((w : Nat) : Int))])), (t0, .inl (cI, 24, .inl (fun j => iI ((tb a0 a1 j : Nat) : Int)))), (k0, .inl (cI, 12, .inl (fun j => iI ((K j : Nat) : Int)))), (p0, .inl (cI, 12, .inl (fun j => iI ((q j : Nat) : Int))))]) hP
    have hK2 := hK.sub (tys' := [(cI, .int)]) [1] rfl
    have hf9 : cells + 1 + 0 ≤ room_1.cells ∧ slots + 6 + 0 ≤ room_1.slots := ⟨by show cells + 1 + 0 ≤ 1036; omega, by show slots + 6 + 0 ≤ 8286; omega⟩
    refine rd_call (va_runV (As := []) (rest := []) ⟨hx, hb, hml, hown, hts⟩ (mX1_thrown l dC dI cI m0 t0 k0 p0 a0 a1 K q (iI 1) w hp0.1 hp1.1 hw hq) (cwV 0 hts gL_law_X1_thrown rfl rfl rfl hvX1_thrown ⟨(Nat.le_of_ble_eq_true rfl), (Nat.le_of_ble_eq_true rfl)⟩) (bW_pre (ci := 1) (q0 := 0) hK2 hP2 rfl rfl rfl) rfl rfl hl.1 rfl (lv_room (Nat.le_of_ble_eq_true rfl)) dL_law_294 hf9) ?_
    refine lv_iload hx hb dL_law_297 (lv_at hl 1 rfl) ?_
    refine ib_icmp_eq (tgt := 304) hx hb dL_law_299 (by decide) ⟨by omega, by omega⟩ ⟨by omega, by omega⟩ (fun c_299 => ?_) (fun c_299 => absurd c_299 (by decide))
    refine lv_iload hx hb dL_law_304 (lv_at hl 1 rfl) ?_
    refine ib_if_ne (tgt := 321) hx hb dL_law_306 (by decide) ⟨by omega, by omega⟩ (fun c_306 => ?_) (fun c_306 => absurd c_306 (by decide))
    refine lv_goto (tgt := 1833) hx hb dL_law_321 (by decide) ?_
    exact kk a0 a1 q K w (iI 1) (g) H ls ⟨hp0, hp1, hw, hq, hqd, hP, hD, hS⟩ (lv_sub hl [2, 3, 4, 5, 6] rfl)
  by_cases b2 : ((z0 = 0 ∨ z0 = 1) ∧ (z3 = 0 ∨ z3 = 1)) ∧ ¬ (0 ≤ z1 ∧ z1 ≤ 3 ∧ 0 ≤ z2 ∧ z2 ≤ 11)
  · skip
    refine lv_aload_n hx hb dL_law_232 rfl (lv_at hl 1 rfl) ?_
    refine lv_aload_n hx hb dL_law_233 rfl (lv_at hl 0 rfl) ?_
    refine lv_iload hx hb dL_law_234 (lv_at hl 4 rfl) ?_
    refine ib_const hx hb dL_law_236 ?_
    refine ib_add (z := (((5 * n) + 1 : Nat) : Int)) hx hb dL_law_237 (by omega) ?_
    refine st_i (y := iI ((5 * n + 1 : Nat) : Int)) (congrArg iI (by omega)) ?_
    refine va_sld (b := b) (L := L) (xs := xs) hx hb hX hbl hbA hS (iI_vp (i := 5 * n + 1) (by omega) (by omega)) dL_law_238 ?_
    refine st_i (y := iI z0) ((congrArg xs (iI_cl (by omega))).trans e0) ?_
    refine lv_aload_n hx hb dL_law_239 rfl (lv_at hl 0 rfl) ?_
    refine lv_iload hx hb dL_law_240 (lv_at hl 4 rfl) ?_
    refine ib_const hx hb dL_law_242 ?_
    refine ib_add (z := (((5 * n) + 2 : Nat) : Int)) hx hb dL_law_243 (by omega) ?_
    refine st_i (y := iI ((5 * n + 2 : Nat) : Int)) (congrArg iI (by omega)) ?_
    refine va_sld (b := b) (L := L) (xs := xs) hx hb hX hbl hbA hS (iI_vp (i := 5 * n + 2) (by omega) (by omega)) dL_law_244 ?_
    refine st_i (y := iI z1) ((congrArg xs (iI_cl (by omega))).trans e1) ?_
    refine lv_aload_n hx hb dL_law_245 rfl (lv_at hl 0 rfl) ?_
    refine lv_iload hx hb dL_law_246 (lv_at hl 4 rfl) ?_
    refine ib_const hx hb dL_law_248 ?_
    refine ib_add (z := (((5 * n) + 3 : Nat) : Int)) hx hb dL_law_249 (by omega) ?_
    refine st_i (y := iI ((5 * n + 3 : Nat) : Int)) (congrArg iI (by omega)) ?_
    refine va_sld (b := b) (L := L) (xs := xs) hx hb hX hbl hbA hS (iI_vp (i := 5 * n + 3) (by omega) (by omega)) dL_law_250 ?_
    refine st_i (y := iI z2) ((congrArg xs (iI_cl (by omega))).trans e2) ?_
    refine lv_aload_n hx hb dL_law_251 rfl (lv_at hl 0 rfl) ?_
    refine lv_iload hx hb dL_law_252 (lv_at hl 4 rfl) ?_
    refine ib_const hx hb dL_law_254 ?_
    refine ib_add (z := (((5 * n) + 4 : Nat) : Int)) hx hb dL_law_255 (by omega) ?_
    refine st_i (y := iI ((5 * n + 4 : Nat) : Int)) (congrArg iI (by omega)) ?_
    refine va_sld (b := b) (L := L) (xs := xs) hx hb hX hbl hbA hS (iI_vp (i := 5 * n + 4) (by omega) (by omega)) dL_law_256 ?_
    refine st_i (y := iI z3) ((congrArg xs (iI_cl (by omega))).trans e3) ?_
    refine lv_aload_n hx hb dL_law_257 rfl (lv_at hl 3 rfl) ?_
    have hf9 : cells + 1 ≤ room_1.cells ∧ slots + 6 ≤ room_1.slots := ⟨by show cells + 1 ≤ 1036; omega, by show slots + 6 ≤ 8286; omega⟩
    have hP1 : va_P (dC, dI) vwCl [(o0, .inr (0, [.long (pk a0), .long (pk a1), .long (pkn q w), .int (iI ((w : Nat) : Int))]))] H := va_P_l (w1 := [(o0, .inr (0, [.long (pk a0), .long (pk a1), .long (pkn q w), .int (iI ((w : Nat) : Int))]))]) (w2 := [(u0, .inl (cJ, 1, .inr (.inl (g)))), (m0, .inr (1, [.int th, .ref t0, .ref k0, .ref p0, .int (iI ((w : Nat) : Int))])), (t0, .inl (cI, 24, .inl (fun j => iI ((tb a0 a1 j : Nat) : Int)))), (k0, .inl (cI, 12, .inl (fun j => iI ((K j : Nat) : Int)))), (p0, .inl (cI, 12, .inl (fun j => iI ((q j : Nat) : Int))))]) hP
    have hK1 := hK.sub (tys' := []) [] rfl
    refine rdK_call (vx_runSW (As := [.ref o0, .int (iI z0), .int (iI z1), .int (iI z2), .int (iI z3), .ref u0]) (rest := []) ⟨hx, hb, hml, hown, hts⟩ (mL_take_x2 l hfl dC dI o0 a0 a1 q w hp0 hp1 hw hq hqd u0 z0 z1 z2 z3 hz0 hz1 hz2 hz3 b2) (vx_cwSW 6 hts gL_law_L_take rfl rfl rfl hdL_take ⟨(Nat.le_of_ble_eq_true rfl), (Nat.le_of_ble_eq_true rfl)⟩) (bY_preS hK1 hP1 (hG0.at hS) hN) rfl rfl hl.1 rfl (lv_room (Nat.le_of_ble_eq_true rfl)) dL_law_258 hf9) (fun H hz hk => ?_)
    have hP : va_P (dC, dI) vwCl ([(o0, .inr (0, [.long (pk a0), .long (pk a1), .long (pkn q w), .int (iI ((w : Nat) : Int))])), (u0, .inl (cJ, 1, .inr (.inl (g))))] ++ [(m0, .inr (1, [.int th, .ref t0, .ref k0, .ref p0, .int (iI ((w : Nat) : Int))])), (t0, .inl (cI, 24, .inl (fun j => iI ((tb a0 a1 j : Nat) : Int)))), (k0, .inl (cI, 12, .inl (fun j => iI ((K j : Nat) : Int)))), (p0, .inl (cI, 12, .inl (fun j => iI ((q j : Nat) : Int))))]) H := va_P_new hP hk
    have hS := va_S_new hS hz hk
    refine lv_istore (lv' := [(5, .int (iI 2)), (0, .ref b), (1, .ref o0), (2, .ref m0), (3, .ref u0), (4, .int (iI ((5 * n : Nat) : Int)))]) hx hb dL_law_261 hl (by decide) rfl (fun ls hl => ?_)
    refine lv_aload_n hx hb dL_law_263 rfl (lv_at hl 3 rfl) ?_
    refine lv_aload_n hx hb dL_law_264 rfl (lv_at hl 1 rfl) ?_
    refine lv_iload hx hb dL_law_265 (lv_at hl 5 rfl) ?_
    refine ib_const hx hb dL_law_267 ?_
    refine ib_add (z := (((5 * n) + 1 : Nat) : Int)) hx hb dL_law_268 (by omega) ?_
    refine st_i (y := iI ((5 * n + 1 : Nat) : Int)) (congrArg iI (by omega)) ?_
    refine va_sld (b := b) (L := L) (xs := xs) hx hb hX hbl hbA hS (iI_vp (i := 5 * n + 1) (by omega) (by omega)) dL_law_269 ?_
    refine st_i (y := iI z0) ((congrArg xs (iI_cl (by omega))).trans e0) ?_
    refine lv_aload_n hx hb dL_law_270 rfl (lv_at hl 1 rfl) ?_
    refine lv_iload hx hb dL_law_271 (lv_at hl 5 rfl) ?_
    refine ib_const hx hb dL_law_273 ?_
    refine ib_add (z := (((5 * n) + 2 : Nat) : Int)) hx hb dL_law_274 (by omega) ?_
    refine st_i (y := iI ((5 * n + 2 : Nat) : Int)) (congrArg iI (by omega)) ?_
    refine va_sld (b := b) (L := L) (xs := xs) hx hb hX hbl hbA hS (iI_vp (i := 5 * n + 2) (by omega) (by omega)) dL_law_275 ?_
    refine st_i (y := iI z1) ((congrArg xs (iI_cl (by omega))).trans e1) ?_
    refine lv_aload_n hx hb dL_law_276 rfl (lv_at hl 1 rfl) ?_
    refine lv_iload hx hb dL_law_277 (lv_at hl 5 rfl) ?_
    refine ib_const hx hb dL_law_279 ?_
    refine ib_add (z := (((5 * n) + 3 : Nat) : Int)) hx hb dL_law_280 (by omega) ?_
    refine st_i (y := iI ((5 * n + 3 : Nat) : Int)) (congrArg iI (by omega)) ?_
    refine va_sld (b := b) (L := L) (xs := xs) hx hb hX hbl hbA hS (iI_vp (i := 5 * n + 3) (by omega) (by omega)) dL_law_281 ?_
    refine st_i (y := iI z2) ((congrArg xs (iI_cl (by omega))).trans e2) ?_
    refine lv_aload_n hx hb dL_law_282 rfl (lv_at hl 1 rfl) ?_
    refine lv_iload hx hb dL_law_283 (lv_at hl 5 rfl) ?_
    refine ib_const hx hb dL_law_285 ?_
    refine ib_add (z := (((5 * n) + 4 : Nat) : Int)) hx hb dL_law_286 (by omega) ?_
    refine st_i (y := iI ((5 * n + 4 : Nat) : Int)) (congrArg iI (by omega)) ?_
    refine va_sld (b := b) (L := L) (xs := xs) hx hb hX hbl hbA hS (iI_vp (i := 5 * n + 4) (by omega) (by omega)) dL_law_287 ?_
    refine st_i (y := iI z3) ((congrArg xs (iI_cl (by omega))).trans e3) ?_
    have hP2 : va_P (dC, dI) vwCl [(m0, .inr (1, [.int th, .ref t0, .ref k0, .ref p0, .int (iI ((w : Nat) : Int))])), (t0, .inl (cI, 24, .inl (fun j => iI ((tb a0 a1 j : Nat) : Int)))), (k0, .inl (cI, 12, .inl (fun j => iI ((K j : Nat) : Int)))), (p0, .inl (cI, 12, .inl (fun j => iI ((q j : Nat) : Int))))] H := va_P_r (w1 := [(o0, .inr (0, [.long (pk a0), .long (pk a1), .long (pkn q w), .int (iI ((w : Nat) : Int))])), (u0, .inl (cJ, 1, .inr (.inl (g))))]) (w2 := [(m0, .inr (1, [.int th, .ref t0, .ref k0, .ref p0, .int (iI ((w : Nat) : Int))])), (t0, .inl (cI, 24, .inl (fun j => iI ((tb a0 a1 j : Nat) : Int)))), (k0, .inl (cI, 12, .inl (fun j => iI ((K j : Nat) : Int)))), (p0, .inl (cI, 12, .inl (fun j => iI ((q j : Nat) : Int))))]) hP
    have hK2 := hK.sub (tys' := [(cI, .int)]) [1] rfl
    have hf9 : cells + 1 + 0 ≤ room_1.cells ∧ slots + 6 + 0 ≤ room_1.slots := ⟨by show cells + 1 + 0 ≤ 1036; omega, by show slots + 6 + 0 ≤ 8286; omega⟩
    have hD2 : va_D (LA s) [(m0, .inr (1, [.int th, .ref t0, .ref k0, .ref p0, .int (iI ((w : Nat) : Int))])), (t0, .inl (cI, 24, .inl (fun j => iI ((tb a0 a1 j : Nat) : Int)))), (k0, .inl (cI, 12, .inl (fun j => iI ((K j : Nat) : Int)))), (p0, .inl (cI, 12, .inl (fun j => iI ((q j : Nat) : Int))))] := va_D_r (w1 := [(o0, .inr (0, [.long (pk a0), .long (pk a1), .long (pkn q w), .int (iI ((w : Nat) : Int))])), (u0, .inl (cJ, 1, .inr (.inl (g))))]) (w2 := [(m0, .inr (1, [.int th, .ref t0, .ref k0, .ref p0, .int (iI ((w : Nat) : Int))])), (t0, .inl (cI, 24, .inl (fun j => iI ((tb a0 a1 j : Nat) : Int)))), (k0, .inl (cI, 12, .inl (fun j => iI ((K j : Nat) : Int)))), (p0, .inl (cI, 12, .inl (fun j => iI ((q j : Nat) : Int))))]) hD
    refine wr_call (va_runV (As := [.int (iI z0), .int (iI z1), .int (iI z2), .int (iI z3)]) (rest := []) ⟨hx, hb, hml, hown, hts⟩ (mX1_take_x2 l dC dI cI m0 t0 k0 p0 a0 a1 K q th w hp0.1 hp1.1 hw hq z0 z1 z2 z3 hz0 hz1 hz2 hz3 b2) (cwV 4 hts gL_law_X1_take rfl rfl rfl hvX1_take ⟨(Nat.le_of_ble_eq_true rfl), (Nat.le_of_ble_eq_true rfl)⟩) (bD_pre (ci := 1) (q0 := 0) hK2 hP2 hD2 rfl rfl rfl) rfl rfl hl.1 rfl (lv_room (Nat.le_of_ble_eq_true rfl)) dL_law_288 hf9) hS (fun q9 h => inW_A hD2 h) (fun H locs hPn hz hk hS => ?_)
    have hP : va_P (dC, dI) vwCl ([(o0, .inr (0, [.long (pk a0), .long (pk a1), .long (pkn q w), .int (iI ((w : Nat) : Int))])), (u0, .inl (cJ, 1, .inr (.inl (g))))] ++ [(m0, .inr (1, [.int (iI 2), .ref t0, .ref k0, .ref p0, .int (iI ((w : Nat) : Int))])), (t0, .inl (cI, 24, .inl (fun j => iI ((tb a0 a1 j : Nat) : Int)))), (k0, .inl (cI, 12, .inl (fun j => iI ((K j : Nat) : Int)))), (p0, .inl (cI, 12, .inl (fun j => iI ((q j : Nat) : Int))))]) H := wj_r (w1 := [(o0, .inr (0, [.long (pk a0), .long (pk a1), .long (pkn q w), .int (iI ((w : Nat) : Int))])), (u0, .inl (cJ, 1, .inr (.inl (g))))]) (w2 := [(m0, .inr (1, [.int th, .ref t0, .ref k0, .ref p0, .int (iI ((w : Nat) : Int))])), (t0, .inl (cI, 24, .inl (fun j => iI ((tb a0 a1 j : Nat) : Int)))), (k0, .inl (cI, 12, .inl (fun j => iI ((K j : Nat) : Int)))), (p0, .inl (cI, 12, .inl (fun j => iI ((q j : Nat) : Int))))]) (w2' := [(m0, .inr (1, [.int (iI 2), .ref t0, .ref k0, .ref p0, .int (iI ((w : Nat) : Int))])), (t0, .inl (cI, 24, .inl (fun j => iI ((tb a0 a1 j : Nat) : Int)))), (k0, .inl (cI, 12, .inl (fun j => iI ((K j : Nat) : Int)))), (p0, .inl (cI, 12, .inl (fun j => iI ((q j : Nat) : Int))))]) hP hD hPn hk
    have hD : va_D (LA s) ([(o0, .inr (0, [.long (pk a0), .long (pk a1), .long (pkn q w), .int (iI ((w : Nat) : Int))])), (u0, .inl (cJ, 1, .inr (.inl (g))))] ++ [(m0, .inr (1, [.int (iI 2), .ref t0, .ref k0, .ref p0, .int (iI ((w : Nat) : Int))])), (t0, .inl (cI, 24, .inl (fun j => iI ((tb a0 a1 j : Nat) : Int)))), (k0, .inl (cI, 12, .inl (fun j => iI ((K j : Nat) : Int)))), (p0, .inl (cI, 12, .inl (fun j => iI ((q j : Nat) : Int))))]) := va_D_same (w := ([(o0, .inr (0, [.long (pk a0), .long (pk a1), .long (pkn q w), .int (iI ((w : Nat) : Int))])), (u0, .inl (cJ, 1, .inr (.inl (g))))] ++ [(m0, .inr (1, [.int th, .ref t0, .ref k0, .ref p0, .int (iI ((w : Nat) : Int))])), (t0, .inl (cI, 24, .inl (fun j => iI ((tb a0 a1 j : Nat) : Int)))), (k0, .inl (cI, 12, .inl (fun j => iI ((K j : Nat) : Int)))), (p0, .inl (cI, 12, .inl (fun j => iI ((q j : Nat) : Int))))])) (Eq.trans (b := [o0, u0, m0, t0, k0, p0]) rfl rfl) hD
    refine va_forget hS.2.2 ?_
    have hS := va_S_nil hS
    refine lv_istore (lv' := [(6, .int (iI 0)), (5, .int (iI 2)), (0, .ref b), (1, .ref o0), (2, .ref m0), (3, .ref u0), (4, .int (iI ((5 * n : Nat) : Int)))]) hx hb dL_law_291 hl (by decide) rfl (fun ls hl => ?_)
    refine lv_aload_n hx hb dL_law_293 rfl (lv_at hl 4 rfl) ?_
    have hP2 : va_P (dC, dI) vwCl [(m0, .inr (1, [.int (iI 2), .ref t0, .ref k0, .ref p0, .int (iI ((w : Nat) : Int))])), (t0, .inl (cI, 24, .inl (fun j => iI ((tb a0 a1 j : Nat) : Int)))), (k0, .inl (cI, 12, .inl (fun j => iI ((K j : Nat) : Int)))), (p0, .inl (cI, 12, .inl (fun j => iI ((q j : Nat) : Int))))] H := va_P_r (w1 := [(o0, .inr (0, [.long (pk a0), .long (pk a1), .long (pkn q w), .int (iI ((w : Nat) : Int))])), (u0, .inl (cJ, 1, .inr (.inl (g))))]) (w2 := [(m0, .inr (1, [.int (iI 2), .ref t0, .ref k0, .ref p0, .int (iI ((w : Nat) : Int))])), (t0, .inl (cI, 24, .inl (fun j => iI ((tb a0 a1 j : Nat) : Int)))), (k0, .inl (cI, 12, .inl (fun j => iI ((K j : Nat) : Int)))), (p0, .inl (cI, 12, .inl (fun j => iI ((q j : Nat) : Int))))]) hP
    have hK2 := hK.sub (tys' := [(cI, .int)]) [1] rfl
    have hf9 : cells + 1 + 0 ≤ room_1.cells ∧ slots + 6 + 0 ≤ room_1.slots := ⟨by show cells + 1 + 0 ≤ 1036; omega, by show slots + 6 + 0 ≤ 8286; omega⟩
    refine rd_call (va_runV (As := []) (rest := []) ⟨hx, hb, hml, hown, hts⟩ (mX1_thrown l dC dI cI m0 t0 k0 p0 a0 a1 K q (iI 2) w hp0.1 hp1.1 hw hq) (cwV 0 hts gL_law_X1_thrown rfl rfl rfl hvX1_thrown ⟨(Nat.le_of_ble_eq_true rfl), (Nat.le_of_ble_eq_true rfl)⟩) (bW_pre (ci := 1) (q0 := 0) hK2 hP2 rfl rfl rfl) rfl rfl hl.1 rfl (lv_room (Nat.le_of_ble_eq_true rfl)) dL_law_294 hf9) ?_
    refine lv_iload hx hb dL_law_297 (lv_at hl 1 rfl) ?_
    refine ib_icmp_eq (tgt := 304) hx hb dL_law_299 (by decide) ⟨by omega, by omega⟩ ⟨by omega, by omega⟩ (fun c_299 => ?_) (fun c_299 => absurd c_299 (by decide))
    refine lv_iload hx hb dL_law_304 (lv_at hl 1 rfl) ?_
    refine ib_if_ne (tgt := 321) hx hb dL_law_306 (by decide) ⟨by omega, by omega⟩ (fun c_306 => ?_) (fun c_306 => absurd c_306 (by decide))
    refine lv_goto (tgt := 1833) hx hb dL_law_321 (by decide) ?_
    exact kk a0 a1 q K w (iI 2) (g) H ls ⟨hp0, hp1, hw, hq, hqd, hP, hD, hS⟩ (lv_sub hl [2, 3, 4, 5, 6] rfl)
  obtain ⟨r, hn0, rfl⟩ := nat_of (z := z0) (k := 4095) (by omega)
  obtain ⟨k, hn1, rfl⟩ := nat_of (z := z1) (k := 4095) (by omega)
  obtain ⟨i, hn2, rfl⟩ := nat_of (z := z2) (k := 4095) (by omega)
  obtain ⟨t, hn3, rfl⟩ := nat_of (z := z3) (k := 4095) (by omega)
  have hF : Pm (fm (rw_ r a0 a1) (12 * k + i)) := fm_Pm (rw_Pm hp0 hp1 r) (by omega)
  refine lv_aload_n hx hb dL_law_232 rfl (lv_at hl 1 rfl) ?_
  refine lv_aload_n hx hb dL_law_233 rfl (lv_at hl 0 rfl) ?_
  refine lv_iload hx hb dL_law_234 (lv_at hl 4 rfl) ?_
  refine ib_const hx hb dL_law_236 ?_
  refine ib_add (z := (((5 * n) + 1 : Nat) : Int)) hx hb dL_law_237 (by omega) ?_
  refine st_i (y := iI ((5 * n + 1 : Nat) : Int)) (congrArg iI (by omega)) ?_
  refine va_sld (b := b) (L := L) (xs := xs) hx hb hX hbl hbA hS (iI_vp (i := 5 * n + 1) (by omega) (by omega)) dL_law_238 ?_
  refine st_i (y := iI ((r : Nat) : Int)) ((congrArg xs (iI_cl (by omega))).trans e0) ?_
  refine lv_aload_n hx hb dL_law_239 rfl (lv_at hl 0 rfl) ?_
  refine lv_iload hx hb dL_law_240 (lv_at hl 4 rfl) ?_
  refine ib_const hx hb dL_law_242 ?_
  refine ib_add (z := (((5 * n) + 2 : Nat) : Int)) hx hb dL_law_243 (by omega) ?_
  refine st_i (y := iI ((5 * n + 2 : Nat) : Int)) (congrArg iI (by omega)) ?_
  refine va_sld (b := b) (L := L) (xs := xs) hx hb hX hbl hbA hS (iI_vp (i := 5 * n + 2) (by omega) (by omega)) dL_law_244 ?_
  refine st_i (y := iI ((k : Nat) : Int)) ((congrArg xs (iI_cl (by omega))).trans e1) ?_
  refine lv_aload_n hx hb dL_law_245 rfl (lv_at hl 0 rfl) ?_
  refine lv_iload hx hb dL_law_246 (lv_at hl 4 rfl) ?_
  refine ib_const hx hb dL_law_248 ?_
  refine ib_add (z := (((5 * n) + 3 : Nat) : Int)) hx hb dL_law_249 (by omega) ?_
  refine st_i (y := iI ((5 * n + 3 : Nat) : Int)) (congrArg iI (by omega)) ?_
  refine va_sld (b := b) (L := L) (xs := xs) hx hb hX hbl hbA hS (iI_vp (i := 5 * n + 3) (by omega) (by omega)) dL_law_250 ?_
  refine st_i (y := iI ((i : Nat) : Int)) ((congrArg xs (iI_cl (by omega))).trans e2) ?_
  refine lv_aload_n hx hb dL_law_251 rfl (lv_at hl 0 rfl) ?_
  refine lv_iload hx hb dL_law_252 (lv_at hl 4 rfl) ?_
  refine ib_const hx hb dL_law_254 ?_
  refine ib_add (z := (((5 * n) + 4 : Nat) : Int)) hx hb dL_law_255 (by omega) ?_
  refine st_i (y := iI ((5 * n + 4 : Nat) : Int)) (congrArg iI (by omega)) ?_
  refine va_sld (b := b) (L := L) (xs := xs) hx hb hX hbl hbA hS (iI_vp (i := 5 * n + 4) (by omega) (by omega)) dL_law_256 ?_
  refine st_i (y := iI ((t : Nat) : Int)) ((congrArg xs (iI_cl (by omega))).trans e3) ?_
  refine lv_aload_n hx hb dL_law_257 rfl (lv_at hl 3 rfl) ?_
  have hf9 : cells + 0 ≤ room_1.cells ∧ slots + 0 ≤ room_1.slots := ⟨by show cells + 0 ≤ 1036; omega, by show slots + 0 ≤ 8286; omega⟩
  have hP1 : va_P (dC, dI) vwCl [(o0, .inr (0, [.long (pk a0), .long (pk a1), .long (pkn q w), .int (iI ((w : Nat) : Int))])), (u0, .inl (cJ, 1, .inr (.inl (g))))] H := va_P_l (w1 := [(o0, .inr (0, [.long (pk a0), .long (pk a1), .long (pkn q w), .int (iI ((w : Nat) : Int))])), (u0, .inl (cJ, 1, .inr (.inl (g))))]) (w2 := [(m0, .inr (1, [.int th, .ref t0, .ref k0, .ref p0, .int (iI ((w : Nat) : Int))])), (t0, .inl (cI, 24, .inl (fun j => iI ((tb a0 a1 j : Nat) : Int)))), (k0, .inl (cI, 12, .inl (fun j => iI ((K j : Nat) : Int)))), (p0, .inl (cI, 12, .inl (fun j => iI ((q j : Nat) : Int))))]) hP
  have hD1 : va_D (LA s) [(o0, .inr (0, [.long (pk a0), .long (pk a1), .long (pkn q w), .int (iI ((w : Nat) : Int))])), (u0, .inl (cJ, 1, .inr (.inl (g))))] := va_D_l (w1 := [(o0, .inr (0, [.long (pk a0), .long (pk a1), .long (pkn q w), .int (iI ((w : Nat) : Int))])), (u0, .inl (cJ, 1, .inr (.inl (g))))]) (w2 := [(m0, .inr (1, [.int th, .ref t0, .ref k0, .ref p0, .int (iI ((w : Nat) : Int))])), (t0, .inl (cI, 24, .inl (fun j => iI ((tb a0 a1 j : Nat) : Int)))), (k0, .inl (cI, 12, .inl (fun j => iI ((K j : Nat) : Int)))), (p0, .inl (cI, 12, .inl (fun j => iI ((q j : Nat) : Int))))]) hD
  have hK1 := hK.sub (tys' := [(cJ, .long)]) [0] rfl
  refine wr_call (vx_runSW (As := [.ref o0, .int (iI ((r : Nat) : Int)), .int (iI ((k : Nat) : Int)), .int (iI ((i : Nat) : Int)), .int (iI ((t : Nat) : Int)), .ref u0]) (rest := []) ⟨hx, hb, hml, hown, hts⟩ (mL_take_ok l dC dI cJ o0 u0 a0 a1 q w hp0 hp1 hw hq hqd g r k i t (by omega) (by omega) (by omega) (by omega)) (vx_cwSW 6 hts gL_law_L_take rfl rfl rfl hdL_take ⟨(Nat.le_of_ble_eq_true rfl), (Nat.le_of_ble_eq_true rfl)⟩) (bD_preS hK1 hP1 hD1) rfl rfl hl.1 rfl (lv_room (Nat.le_of_ble_eq_true rfl)) dL_law_258 hf9) hS (fun q9 h => inW_A hD1 h) (fun H locs hPn hz hk hS => ?_)
  have hP : va_P (dC, dI) vwCl ([(o0, .inr (0, [.long (pk (sr0 t (fm (rw_ r a0 a1) (12 * k + i)) a0)), .long (pk (sr1 t (fm (rw_ r a0 a1) (12 * k + i)) a1)), .long (pkn q w), .int (iI ((w : Nat) : Int))])), (u0, .inl (cJ, 1, .inr (.inl (fun _ => (iI ((fm (rw_ r a0 a1) (12 * k + i) 0 : Nat) : Int)).toInt64))))] ++ [(m0, .inr (1, [.int th, .ref t0, .ref k0, .ref p0, .int (iI ((w : Nat) : Int))])), (t0, .inl (cI, 24, .inl (fun j => iI ((tb a0 a1 j : Nat) : Int)))), (k0, .inl (cI, 12, .inl (fun j => iI ((K j : Nat) : Int)))), (p0, .inl (cI, 12, .inl (fun j => iI ((q j : Nat) : Int))))]) H := wj_l (w1 := [(o0, .inr (0, [.long (pk a0), .long (pk a1), .long (pkn q w), .int (iI ((w : Nat) : Int))])), (u0, .inl (cJ, 1, .inr (.inl (g))))]) (w2 := [(m0, .inr (1, [.int th, .ref t0, .ref k0, .ref p0, .int (iI ((w : Nat) : Int))])), (t0, .inl (cI, 24, .inl (fun j => iI ((tb a0 a1 j : Nat) : Int)))), (k0, .inl (cI, 12, .inl (fun j => iI ((K j : Nat) : Int)))), (p0, .inl (cI, 12, .inl (fun j => iI ((q j : Nat) : Int))))]) (w1' := [(o0, .inr (0, [.long (pk (sr0 t (fm (rw_ r a0 a1) (12 * k + i)) a0)), .long (pk (sr1 t (fm (rw_ r a0 a1) (12 * k + i)) a1)), .long (pkn q w), .int (iI ((w : Nat) : Int))])), (u0, .inl (cJ, 1, .inr (.inl (fun _ => (iI ((fm (rw_ r a0 a1) (12 * k + i) 0 : Nat) : Int)).toInt64))))]) hP hD hPn hk
  have hD : va_D (LA s) ([(o0, .inr (0, [.long (pk (sr0 t (fm (rw_ r a0 a1) (12 * k + i)) a0)), .long (pk (sr1 t (fm (rw_ r a0 a1) (12 * k + i)) a1)), .long (pkn q w), .int (iI ((w : Nat) : Int))])), (u0, .inl (cJ, 1, .inr (.inl (fun _ => (iI ((fm (rw_ r a0 a1) (12 * k + i) 0 : Nat) : Int)).toInt64))))] ++ [(m0, .inr (1, [.int th, .ref t0, .ref k0, .ref p0, .int (iI ((w : Nat) : Int))])), (t0, .inl (cI, 24, .inl (fun j => iI ((tb a0 a1 j : Nat) : Int)))), (k0, .inl (cI, 12, .inl (fun j => iI ((K j : Nat) : Int)))), (p0, .inl (cI, 12, .inl (fun j => iI ((q j : Nat) : Int))))]) := va_D_same (w := ([(o0, .inr (0, [.long (pk a0), .long (pk a1), .long (pkn q w), .int (iI ((w : Nat) : Int))])), (u0, .inl (cJ, 1, .inr (.inl (g))))] ++ [(m0, .inr (1, [.int th, .ref t0, .ref k0, .ref p0, .int (iI ((w : Nat) : Int))])), (t0, .inl (cI, 24, .inl (fun j => iI ((tb a0 a1 j : Nat) : Int)))), (k0, .inl (cI, 12, .inl (fun j => iI ((K j : Nat) : Int)))), (p0, .inl (cI, 12, .inl (fun j => iI ((q j : Nat) : Int))))])) (Eq.trans (b := [o0, u0, m0, t0, k0, p0]) rfl rfl) hD
  refine va_forget hS.2.2 ?_
  have hS := va_S_nil hS
  refine W.widen (k := cells + 1) (n := slots + 6) (by omega) (by omega) ?_
  refine lv_istore (lv' := [(5, .int (iI 0)), (0, .ref b), (1, .ref o0), (2, .ref m0), (3, .ref u0), (4, .int (iI ((5 * n : Nat) : Int)))]) hx hb dL_law_261 hl (by decide) rfl (fun ls hl => ?_)
  refine lv_aload_n hx hb dL_law_263 rfl (lv_at hl 3 rfl) ?_
  refine lv_aload_n hx hb dL_law_264 rfl (lv_at hl 1 rfl) ?_
  refine lv_iload hx hb dL_law_265 (lv_at hl 5 rfl) ?_
  refine ib_const hx hb dL_law_267 ?_
  refine ib_add (z := (((5 * n) + 1 : Nat) : Int)) hx hb dL_law_268 (by omega) ?_
  refine st_i (y := iI ((5 * n + 1 : Nat) : Int)) (congrArg iI (by omega)) ?_
  refine va_sld (b := b) (L := L) (xs := xs) hx hb hX hbl hbA hS (iI_vp (i := 5 * n + 1) (by omega) (by omega)) dL_law_269 ?_
  refine st_i (y := iI ((r : Nat) : Int)) ((congrArg xs (iI_cl (by omega))).trans e0) ?_
  refine lv_aload_n hx hb dL_law_270 rfl (lv_at hl 1 rfl) ?_
  refine lv_iload hx hb dL_law_271 (lv_at hl 5 rfl) ?_
  refine ib_const hx hb dL_law_273 ?_
  refine ib_add (z := (((5 * n) + 2 : Nat) : Int)) hx hb dL_law_274 (by omega) ?_
  refine st_i (y := iI ((5 * n + 2 : Nat) : Int)) (congrArg iI (by omega)) ?_
  refine va_sld (b := b) (L := L) (xs := xs) hx hb hX hbl hbA hS (iI_vp (i := 5 * n + 2) (by omega) (by omega)) dL_law_275 ?_
  refine st_i (y := iI ((k : Nat) : Int)) ((congrArg xs (iI_cl (by omega))).trans e1) ?_
  refine lv_aload_n hx hb dL_law_276 rfl (lv_at hl 1 rfl) ?_
  refine lv_iload hx hb dL_law_277 (lv_at hl 5 rfl) ?_
  refine ib_const hx hb dL_law_279 ?_
  refine ib_add (z := (((5 * n) + 3 : Nat) : Int)) hx hb dL_law_280 (by omega) ?_
  refine st_i (y := iI ((5 * n + 3 : Nat) : Int)) (congrArg iI (by omega)) ?_
  refine va_sld (b := b) (L := L) (xs := xs) hx hb hX hbl hbA hS (iI_vp (i := 5 * n + 3) (by omega) (by omega)) dL_law_281 ?_
  refine st_i (y := iI ((i : Nat) : Int)) ((congrArg xs (iI_cl (by omega))).trans e2) ?_
  refine lv_aload_n hx hb dL_law_282 rfl (lv_at hl 1 rfl) ?_
  refine lv_iload hx hb dL_law_283 (lv_at hl 5 rfl) ?_
  refine ib_const hx hb dL_law_285 ?_
  refine ib_add (z := (((5 * n) + 4 : Nat) : Int)) hx hb dL_law_286 (by omega) ?_
  refine st_i (y := iI ((5 * n + 4 : Nat) : Int)) (congrArg iI (by omega)) ?_
  refine va_sld (b := b) (L := L) (xs := xs) hx hb hX hbl hbA hS (iI_vp (i := 5 * n + 4) (by omega) (by omega)) dL_law_287 ?_
  refine st_i (y := iI ((t : Nat) : Int)) ((congrArg xs (iI_cl (by omega))).trans e3) ?_
  have hP2 : va_P (dC, dI) vwCl [(m0, .inr (1, [.int th, .ref t0, .ref k0, .ref p0, .int (iI ((w : Nat) : Int))])), (t0, .inl (cI, 24, .inl (fun j => iI ((tb a0 a1 j : Nat) : Int)))), (k0, .inl (cI, 12, .inl (fun j => iI ((K j : Nat) : Int)))), (p0, .inl (cI, 12, .inl (fun j => iI ((q j : Nat) : Int))))] H := va_P_r (w1 := [(o0, .inr (0, [.long (pk (sr0 t (fm (rw_ r a0 a1) (12 * k + i)) a0)), .long (pk (sr1 t (fm (rw_ r a0 a1) (12 * k + i)) a1)), .long (pkn q w), .int (iI ((w : Nat) : Int))])), (u0, .inl (cJ, 1, .inr (.inl (fun _ => (iI ((fm (rw_ r a0 a1) (12 * k + i) 0 : Nat) : Int)).toInt64))))]) (w2 := [(m0, .inr (1, [.int th, .ref t0, .ref k0, .ref p0, .int (iI ((w : Nat) : Int))])), (t0, .inl (cI, 24, .inl (fun j => iI ((tb a0 a1 j : Nat) : Int)))), (k0, .inl (cI, 12, .inl (fun j => iI ((K j : Nat) : Int)))), (p0, .inl (cI, 12, .inl (fun j => iI ((q j : Nat) : Int))))]) hP
  have hK2 := hK.sub (tys' := [(cI, .int)]) [1] rfl
  have hf9 : cells + 1 + 0 ≤ room_1.cells ∧ slots + 6 + 0 ≤ room_1.slots := ⟨by show cells + 1 + 0 ≤ 1036; omega, by show slots + 6 + 0 ≤ 8286; omega⟩
  have hD2 : va_D (LA s) [(m0, .inr (1, [.int th, .ref t0, .ref k0, .ref p0, .int (iI ((w : Nat) : Int))])), (t0, .inl (cI, 24, .inl (fun j => iI ((tb a0 a1 j : Nat) : Int)))), (k0, .inl (cI, 12, .inl (fun j => iI ((K j : Nat) : Int)))), (p0, .inl (cI, 12, .inl (fun j => iI ((q j : Nat) : Int))))] := va_D_r (w1 := [(o0, .inr (0, [.long (pk (sr0 t (fm (rw_ r a0 a1) (12 * k + i)) a0)), .long (pk (sr1 t (fm (rw_ r a0 a1) (12 * k + i)) a1)), .long (pkn q w), .int (iI ((w : Nat) : Int))])), (u0, .inl (cJ, 1, .inr (.inl (fun _ => (iI ((fm (rw_ r a0 a1) (12 * k + i) 0 : Nat) : Int)).toInt64))))]) (w2 := [(m0, .inr (1, [.int th, .ref t0, .ref k0, .ref p0, .int (iI ((w : Nat) : Int))])), (t0, .inl (cI, 24, .inl (fun j => iI ((tb a0 a1 j : Nat) : Int)))), (k0, .inl (cI, 12, .inl (fun j => iI ((K j : Nat) : Int)))), (p0, .inl (cI, 12, .inl (fun j => iI ((q j : Nat) : Int))))]) hD
  refine wr_call (va_runV (As := [.int (iI ((r : Nat) : Int)), .int (iI ((k : Nat) : Int)), .int (iI ((i : Nat) : Int)), .int (iI ((t : Nat) : Int))]) (rest := []) ⟨hx, hb, hml, hown, hts⟩ (mX1_take_ok l dC dI cI m0 t0 k0 p0 a0 a1 K q th w hp0.1 hp1.1 hw hq r k i t (by omega) (by omega) (by omega) (by omega)) (cwV 4 hts gL_law_X1_take rfl rfl rfl hvX1_take ⟨(Nat.le_of_ble_eq_true rfl), (Nat.le_of_ble_eq_true rfl)⟩) (bD_pre (ci := 1) (q0 := 0) hK2 hP2 hD2 rfl rfl rfl) rfl rfl hl.1 rfl (lv_room (Nat.le_of_ble_eq_true rfl)) dL_law_288 hf9) hS (fun q9 h => inW_A hD2 h) (fun H locs hPn hz hk hS => ?_)
  have hP : va_P (dC, dI) vwCl ([(o0, .inr (0, [.long (pk (sr0 t (fm (rw_ r a0 a1) (12 * k + i)) a0)), .long (pk (sr1 t (fm (rw_ r a0 a1) (12 * k + i)) a1)), .long (pkn q w), .int (iI ((w : Nat) : Int))])), (u0, .inl (cJ, 1, .inr (.inl (fun _ => (iI ((fm (rw_ r a0 a1) (12 * k + i) 0 : Nat) : Int)).toInt64))))] ++ [(m0, .inr (1, [.int (iI 0), .ref t0, .ref k0, .ref p0, .int (iI ((w : Nat) : Int))])), (t0, .inl (cI, 24, .inl (fun j => iI ((tb (sr0 t (fm (rw_ r a0 a1) (12 * k + i)) a0) (sr1 t (fm (rw_ r a0 a1) (12 * k + i)) a1) j : Nat) : Int)))), (k0, .inl (cI, 12, .inl (fun j => iI (((mx (fm (rw_ r a0 a1) (12 * k + i)) K 12) j : Nat) : Int)))), (p0, .inl (cI, 12, .inl (fun j => iI ((q j : Nat) : Int))))]) H := wj_r (w1 := [(o0, .inr (0, [.long (pk (sr0 t (fm (rw_ r a0 a1) (12 * k + i)) a0)), .long (pk (sr1 t (fm (rw_ r a0 a1) (12 * k + i)) a1)), .long (pkn q w), .int (iI ((w : Nat) : Int))])), (u0, .inl (cJ, 1, .inr (.inl (fun _ => (iI ((fm (rw_ r a0 a1) (12 * k + i) 0 : Nat) : Int)).toInt64))))]) (w2 := [(m0, .inr (1, [.int th, .ref t0, .ref k0, .ref p0, .int (iI ((w : Nat) : Int))])), (t0, .inl (cI, 24, .inl (fun j => iI ((tb a0 a1 j : Nat) : Int)))), (k0, .inl (cI, 12, .inl (fun j => iI ((K j : Nat) : Int)))), (p0, .inl (cI, 12, .inl (fun j => iI ((q j : Nat) : Int))))]) (w2' := [(m0, .inr (1, [.int (iI 0), .ref t0, .ref k0, .ref p0, .int (iI ((w : Nat) : Int))])), (t0, .inl (cI, 24, .inl (fun j => iI ((tb (sr0 t (fm (rw_ r a0 a1) (12 * k + i)) a0) (sr1 t (fm (rw_ r a0 a1) (12 * k + i)) a1) j : Nat) : Int)))), (k0, .inl (cI, 12, .inl (fun j => iI (((mx (fm (rw_ r a0 a1) (12 * k + i)) K 12) j : Nat) : Int)))), (p0, .inl (cI, 12, .inl (fun j => iI ((q j : Nat) : Int))))]) hP hD hPn hk
  have hD : va_D (LA s) ([(o0, .inr (0, [.long (pk (sr0 t (fm (rw_ r a0 a1) (12 * k + i)) a0)), .long (pk (sr1 t (fm (rw_ r a0 a1) (12 * k + i)) a1)), .long (pkn q w), .int (iI ((w : Nat) : Int))])), (u0, .inl (cJ, 1, .inr (.inl (fun _ => (iI ((fm (rw_ r a0 a1) (12 * k + i) 0 : Nat) : Int)).toInt64))))] ++ [(m0, .inr (1, [.int (iI 0), .ref t0, .ref k0, .ref p0, .int (iI ((w : Nat) : Int))])), (t0, .inl (cI, 24, .inl (fun j => iI ((tb (sr0 t (fm (rw_ r a0 a1) (12 * k + i)) a0) (sr1 t (fm (rw_ r a0 a1) (12 * k + i)) a1) j : Nat) : Int)))), (k0, .inl (cI, 12, .inl (fun j => iI (((mx (fm (rw_ r a0 a1) (12 * k + i)) K 12) j : Nat) : Int)))), (p0, .inl (cI, 12, .inl (fun j => iI ((q j : Nat) : Int))))]) := va_D_same (w := ([(o0, .inr (0, [.long (pk (sr0 t (fm (rw_ r a0 a1) (12 * k + i)) a0)), .long (pk (sr1 t (fm (rw_ r a0 a1) (12 * k + i)) a1)), .long (pkn q w), .int (iI ((w : Nat) : Int))])), (u0, .inl (cJ, 1, .inr (.inl (fun _ => (iI ((fm (rw_ r a0 a1) (12 * k + i) 0 : Nat) : Int)).toInt64))))] ++ [(m0, .inr (1, [.int th, .ref t0, .ref k0, .ref p0, .int (iI ((w : Nat) : Int))])), (t0, .inl (cI, 24, .inl (fun j => iI ((tb a0 a1 j : Nat) : Int)))), (k0, .inl (cI, 12, .inl (fun j => iI ((K j : Nat) : Int)))), (p0, .inl (cI, 12, .inl (fun j => iI ((q j : Nat) : Int))))])) (Eq.trans (b := [o0, u0, m0, t0, k0, p0]) rfl rfl) hD
  refine va_forget hS.2.2 ?_
  have hS := va_S_nil hS
  refine lv_istore (lv' := [(6, .int (iI ((fm (rw_ r a0 a1) (12 * k + i) 0 : Nat) : Int))), (5, .int (iI 0)), (0, .ref b), (1, .ref o0), (2, .ref m0), (3, .ref u0), (4, .int (iI ((5 * n : Nat) : Int)))]) hx hb dL_law_291 hl (by decide) rfl (fun ls hl => ?_)
  refine lv_aload_n hx hb dL_law_293 rfl (lv_at hl 4 rfl) ?_
  have hP2 : va_P (dC, dI) vwCl [(m0, .inr (1, [.int (iI 0), .ref t0, .ref k0, .ref p0, .int (iI ((w : Nat) : Int))])), (t0, .inl (cI, 24, .inl (fun j => iI ((tb (sr0 t (fm (rw_ r a0 a1) (12 * k + i)) a0) (sr1 t (fm (rw_ r a0 a1) (12 * k + i)) a1) j : Nat) : Int)))), (k0, .inl (cI, 12, .inl (fun j => iI (((mx (fm (rw_ r a0 a1) (12 * k + i)) K 12) j : Nat) : Int)))), (p0, .inl (cI, 12, .inl (fun j => iI ((q j : Nat) : Int))))] H := va_P_r (w1 := [(o0, .inr (0, [.long (pk (sr0 t (fm (rw_ r a0 a1) (12 * k + i)) a0)), .long (pk (sr1 t (fm (rw_ r a0 a1) (12 * k + i)) a1)), .long (pkn q w), .int (iI ((w : Nat) : Int))])), (u0, .inl (cJ, 1, .inr (.inl (fun _ => (iI ((fm (rw_ r a0 a1) (12 * k + i) 0 : Nat) : Int)).toInt64))))]) (w2 := [(m0, .inr (1, [.int (iI 0), .ref t0, .ref k0, .ref p0, .int (iI ((w : Nat) : Int))])), (t0, .inl (cI, 24, .inl (fun j => iI ((tb (sr0 t (fm (rw_ r a0 a1) (12 * k + i)) a0) (sr1 t (fm (rw_ r a0 a1) (12 * k + i)) a1) j : Nat) : Int)))), (k0, .inl (cI, 12, .inl (fun j => iI (((mx (fm (rw_ r a0 a1) (12 * k + i)) K 12) j : Nat) : Int)))), (p0, .inl (cI, 12, .inl (fun j => iI ((q j : Nat) : Int))))]) hP
  have hK2 := hK.sub (tys' := [(cI, .int)]) [1] rfl
  have hf9 : cells + 1 + 0 ≤ room_1.cells ∧ slots + 6 + 0 ≤ room_1.slots := ⟨by show cells + 1 + 0 ≤ 1036; omega, by show slots + 6 + 0 ≤ 8286; omega⟩
  refine rd_call (va_runV (As := []) (rest := []) ⟨hx, hb, hml, hown, hts⟩ (mX1_thrown l dC dI cI m0 t0 k0 p0 (sr0 t (fm (rw_ r a0 a1) (12 * k + i)) a0) (sr1 t (fm (rw_ r a0 a1) (12 * k + i)) a1) (mx (fm (rw_ r a0 a1) (12 * k + i)) K 12) q (iI 0) w (sr0_Pm t hF hp0).1 (sr1_Pm t hF hp1).1 hw hq) (cwV 0 hts gL_law_X1_thrown rfl rfl rfl hvX1_thrown ⟨(Nat.le_of_ble_eq_true rfl), (Nat.le_of_ble_eq_true rfl)⟩) (bW_pre (ci := 1) (q0 := 0) hK2 hP2 rfl rfl rfl) rfl rfl hl.1 rfl (lv_room (Nat.le_of_ble_eq_true rfl)) dL_law_294 hf9) ?_
  refine lv_iload hx hb dL_law_297 (lv_at hl 1 rfl) ?_
  refine ib_icmp_eq (tgt := 304) hx hb dL_law_299 (by decide) ⟨by omega, by omega⟩ ⟨by omega, by omega⟩ (fun c_299 => ?_) (fun c_299 => absurd c_299 (by decide))
  refine lv_iload hx hb dL_law_304 (lv_at hl 1 rfl) ?_
  refine ib_if_ne (tgt := 321) hx hb dL_law_306 (by decide) ⟨by omega, by omega⟩ (fun c_306 => absurd c_306 (by decide)) (fun c_306 => ?_)
  refine lv_aload_n hx hb dL_law_309 rfl (lv_at hl 5 rfl) ?_
  refine ib_const hx hb dL_law_310 ?_
  refine va_lald hx hb hK hP 1 0 rfl rfl vp0 dL_law_311 ?_
  refine st_l (y := (iI ((fm (rw_ r a0 a1) (12 * k + i) 0 : Nat) : Int)).toInt64) rfl ?_
  refine lv_iload hx hb dL_law_312 (lv_at hl 0 rfl) ?_
  refine lv_i2l hx hb dL_law_314 rfl ?_
  refine W.lcmp hx hb dL_law_315 ?_
  refine bl_eq (tgt := 321) hx hb dL_law_316 (by decide) (fun _ => ?_) (fun h => absurd rfl h)
  refine lv_goto (tgt := 1833) hx hb dL_law_321 (by decide) ?_
  exact kk (sr0 t (fm (rw_ r a0 a1) (12 * k + i)) a0) (sr1 t (fm (rw_ r a0 a1) (12 * k + i)) a1) q (mx (fm (rw_ r a0 a1) (12 * k + i)) K 12) w (iI 0) (fun _ => (iI ((fm (rw_ r a0 a1) (12 * k + i) 0 : Nat) : Int)).toInt64) H ls ⟨(sr0_Pm t hF hp0), (sr1_Pm t hF hp1), hw, hq, hqd, hP, hD, hS⟩ (lv_sub hl [2, 3, 4, 5, 6] rfl)

set_option maxHeartbeats 4000000 in
set_option maxRecDepth 100000 in
theorem law_c2 {p : Program} {l : Launch} {e : Env} {s : State} {m : MethodId} {below : List Frame} {meth : Method} {c : Code} {Q : State → Prop} {dC : Nat → ClassId} {dI : Nat → Nat → Nat} {cI cJ : ClassId} {b L : Nat} {xs : Nat → Int32} (C : LC p l s m meth c (dC, dI) cI cJ b L xs) {o0 u0 m0 t0 k0 p0 : Nat} {a0 a1 q K : Nat → Nat} {w : Nat} {th : Int32} {g : Nat → Int64} {H : Heap} (hI : LI s (dC, dI) cI cJ o0 u0 m0 t0 k0 p0 a0 a1 q K w th g H) {n cells slots : Nat} (hc1 : cells + 1 ≤ 1036) (hc2 : slots + 6 ≤ 8286) (hn : 5 * n + 5 ≤ L) (hL : L ≤ 2560) {ls : Array Slot} (hl : lv_has ls 8 [(0, .ref b), (1, .ref o0), (2, .ref m0), (3, .ref u0), (4, .int (iI ((5 * n : Nat) : Int)))])
    (kk : ∀ (a0 a1 q K : Nat → Nat) (w : Nat) (th : Int32) (g : Nat → Int64) (H : Heap) (ls : Array Slot), LI s (dC, dI) cI cJ o0 u0 m0 t0 k0 p0 a0 a1 q K w th g H → lv_has ls 8 [(0, .ref b), (1, .ref o0), (2, .ref m0), (3, .ref u0), (4, .int (iI ((5 * n : Nat) : Int)))] → W p l e room_1 s m #[Value.ref b] below meth c H [] (cells + 1) (slots + 6) Q (F0 m 1833 ls [])) : W p l e room_1 s m #[Value.ref b] below meth c H [] cells slots Q (F0 m 324 ls []) := by
  obtain ⟨hx, hb, hml, hown, hts, hK, hG0, hN, hX, hbl, hfl⟩ := C
  obtain ⟨hp0, hp1, hw, hq, hqd, hP, hD, hS⟩ := hI
  have hbA : ¬ LA s b := Nat.not_le.mpr hbl
  obtain ⟨z0, hz0, e0⟩ := ex_i (xs (5 * n + 1))
  obtain ⟨z1, hz1, e1⟩ := ex_i (xs (5 * n + 2))
  have hza0 := hz0.1
  have hzb0 := hz0.2
  have hza1 := hz1.1
  have hzb1 := hz1.2
  by_cases b1 : ¬ (z0 = 0 ∨ z0 = 1)
  · skip
    refine lv_aload_n hx hb dL_law_324 rfl (lv_at hl 1 rfl) ?_
    refine lv_aload_n hx hb dL_law_325 rfl (lv_at hl 0 rfl) ?_
    refine lv_iload hx hb dL_law_326 (lv_at hl 4 rfl) ?_
    refine ib_const hx hb dL_law_328 ?_
    refine ib_add (z := (((5 * n) + 1 : Nat) : Int)) hx hb dL_law_329 (by omega) ?_
    refine st_i (y := iI ((5 * n + 1 : Nat) : Int)) (congrArg iI (by omega)) ?_
    refine va_sld (b := b) (L := L) (xs := xs) hx hb hX hbl hbA hS (iI_vp (i := 5 * n + 1) (by omega) (by omega)) dL_law_330 ?_
    refine st_i (y := iI z0) ((congrArg xs (iI_cl (by omega))).trans e0) ?_
    refine lv_aload_n hx hb dL_law_331 rfl (lv_at hl 0 rfl) ?_
    refine lv_iload hx hb dL_law_332 (lv_at hl 4 rfl) ?_
    refine ib_const hx hb dL_law_334 ?_
    refine ib_add (z := (((5 * n) + 2 : Nat) : Int)) hx hb dL_law_335 (by omega) ?_
    refine st_i (y := iI ((5 * n + 2 : Nat) : Int)) (congrArg iI (by omega)) ?_
    refine va_sld (b := b) (L := L) (xs := xs) hx hb hX hbl hbA hS (iI_vp (i := 5 * n + 2) (by omega) (by omega)) dL_law_336 ?_
    refine st_i (y := iI z1) ((congrArg xs (iI_cl (by omega))).trans e1) ?_
    refine lv_aload_n hx hb dL_law_337 rfl (lv_at hl 3 rfl) ?_
    have hf9 : cells + 1 ≤ room_1.cells ∧ slots + 6 ≤ room_1.slots := ⟨by show cells + 1 ≤ 1036; omega, by show slots + 6 ≤ 8286; omega⟩
    have hP1 : va_P (dC, dI) vwCl [(o0, .inr (0, [.long (pk a0), .long (pk a1), .long (pkn q w), .int (iI ((w : Nat) : Int))]))] H := va_P_l (w1 := [(o0, .inr (0, [.long (pk a0), .long (pk a1), .long (pkn q w), .int (iI ((w : Nat) : Int))]))]) (w2 := [(u0, .inl (cJ, 1, .inr (.inl (g)))), (m0, .inr (1, [.int th, .ref t0, .ref k0, .ref p0, .int (iI ((w : Nat) : Int))])), (t0, .inl (cI, 24, .inl (fun j => iI ((tb a0 a1 j : Nat) : Int)))), (k0, .inl (cI, 12, .inl (fun j => iI ((K j : Nat) : Int)))), (p0, .inl (cI, 12, .inl (fun j => iI ((q j : Nat) : Int))))]) hP
    have hK1 := hK.sub (tys' := []) [] rfl
    refine rdK_call (vx_runSW (As := [.ref o0, .int (iI z0), .int (iI z1), .ref u0]) (rest := []) ⟨hx, hb, hml, hown, hts⟩ (mL_multiply_x1 l hfl dC dI o0 a0 a1 q w hp0 hp1 hw hq hqd u0 z0 z1 hz0 hz1 b1) (vx_cwSW 4 hts gL_law_L_multiply rfl rfl rfl hdL_multiply ⟨(Nat.le_of_ble_eq_true rfl), (Nat.le_of_ble_eq_true rfl)⟩) (bY_preS hK1 hP1 (hG0.at hS) hN) rfl rfl hl.1 rfl (lv_room (Nat.le_of_ble_eq_true rfl)) dL_law_338 hf9) (fun H hz hk => ?_)
    have hP : va_P (dC, dI) vwCl ([(o0, .inr (0, [.long (pk a0), .long (pk a1), .long (pkn q w), .int (iI ((w : Nat) : Int))])), (u0, .inl (cJ, 1, .inr (.inl (g))))] ++ [(m0, .inr (1, [.int th, .ref t0, .ref k0, .ref p0, .int (iI ((w : Nat) : Int))])), (t0, .inl (cI, 24, .inl (fun j => iI ((tb a0 a1 j : Nat) : Int)))), (k0, .inl (cI, 12, .inl (fun j => iI ((K j : Nat) : Int)))), (p0, .inl (cI, 12, .inl (fun j => iI ((q j : Nat) : Int))))]) H := va_P_new hP hk
    have hS := va_S_new hS hz hk
    refine lv_istore (lv' := [(5, .int (iI 1)), (0, .ref b), (1, .ref o0), (2, .ref m0), (3, .ref u0), (4, .int (iI ((5 * n : Nat) : Int)))]) hx hb dL_law_341 hl (by decide) rfl (fun ls hl => ?_)
    refine lv_aload_n hx hb dL_law_343 rfl (lv_at hl 3 rfl) ?_
    refine lv_aload_n hx hb dL_law_344 rfl (lv_at hl 1 rfl) ?_
    refine lv_iload hx hb dL_law_345 (lv_at hl 5 rfl) ?_
    refine ib_const hx hb dL_law_347 ?_
    refine ib_add (z := (((5 * n) + 1 : Nat) : Int)) hx hb dL_law_348 (by omega) ?_
    refine st_i (y := iI ((5 * n + 1 : Nat) : Int)) (congrArg iI (by omega)) ?_
    refine va_sld (b := b) (L := L) (xs := xs) hx hb hX hbl hbA hS (iI_vp (i := 5 * n + 1) (by omega) (by omega)) dL_law_349 ?_
    refine st_i (y := iI z0) ((congrArg xs (iI_cl (by omega))).trans e0) ?_
    refine lv_aload_n hx hb dL_law_350 rfl (lv_at hl 1 rfl) ?_
    refine lv_iload hx hb dL_law_351 (lv_at hl 5 rfl) ?_
    refine ib_const hx hb dL_law_353 ?_
    refine ib_add (z := (((5 * n) + 2 : Nat) : Int)) hx hb dL_law_354 (by omega) ?_
    refine st_i (y := iI ((5 * n + 2 : Nat) : Int)) (congrArg iI (by omega)) ?_
    refine va_sld (b := b) (L := L) (xs := xs) hx hb hX hbl hbA hS (iI_vp (i := 5 * n + 2) (by omega) (by omega)) dL_law_355 ?_
    refine st_i (y := iI z1) ((congrArg xs (iI_cl (by omega))).trans e1) ?_
    have hP2 : va_P (dC, dI) vwCl [(m0, .inr (1, [.int th, .ref t0, .ref k0, .ref p0, .int (iI ((w : Nat) : Int))])), (t0, .inl (cI, 24, .inl (fun j => iI ((tb a0 a1 j : Nat) : Int)))), (k0, .inl (cI, 12, .inl (fun j => iI ((K j : Nat) : Int)))), (p0, .inl (cI, 12, .inl (fun j => iI ((q j : Nat) : Int))))] H := va_P_r (w1 := [(o0, .inr (0, [.long (pk a0), .long (pk a1), .long (pkn q w), .int (iI ((w : Nat) : Int))])), (u0, .inl (cJ, 1, .inr (.inl (g))))]) (w2 := [(m0, .inr (1, [.int th, .ref t0, .ref k0, .ref p0, .int (iI ((w : Nat) : Int))])), (t0, .inl (cI, 24, .inl (fun j => iI ((tb a0 a1 j : Nat) : Int)))), (k0, .inl (cI, 12, .inl (fun j => iI ((K j : Nat) : Int)))), (p0, .inl (cI, 12, .inl (fun j => iI ((q j : Nat) : Int))))]) hP
    have hK2 := hK.sub (tys' := [(cI, .int)]) [1] rfl
    have hf9 : cells + 1 + 0 ≤ room_1.cells ∧ slots + 6 + 0 ≤ room_1.slots := ⟨by show cells + 1 + 0 ≤ 1036; omega, by show slots + 6 + 0 ≤ 8286; omega⟩
    have hD2 : va_D (LA s) [(m0, .inr (1, [.int th, .ref t0, .ref k0, .ref p0, .int (iI ((w : Nat) : Int))])), (t0, .inl (cI, 24, .inl (fun j => iI ((tb a0 a1 j : Nat) : Int)))), (k0, .inl (cI, 12, .inl (fun j => iI ((K j : Nat) : Int)))), (p0, .inl (cI, 12, .inl (fun j => iI ((q j : Nat) : Int))))] := va_D_r (w1 := [(o0, .inr (0, [.long (pk a0), .long (pk a1), .long (pkn q w), .int (iI ((w : Nat) : Int))])), (u0, .inl (cJ, 1, .inr (.inl (g))))]) (w2 := [(m0, .inr (1, [.int th, .ref t0, .ref k0, .ref p0, .int (iI ((w : Nat) : Int))])), (t0, .inl (cI, 24, .inl (fun j => iI ((tb a0 a1 j : Nat) : Int)))), (k0, .inl (cI, 12, .inl (fun j => iI ((K j : Nat) : Int)))), (p0, .inl (cI, 12, .inl (fun j => iI ((q j : Nat) : Int))))]) hD
    refine wr_call (va_runV (As := [.int (iI z0), .int (iI z1)]) (rest := []) ⟨hx, hb, hml, hown, hts⟩ (mX1_multiply_x1 l dC dI cI m0 t0 k0 p0 a0 a1 K q th w hp0.1 hp1.1 hw hq z0 z1 hz0 hz1 b1) (cwV 2 hts gL_law_X1_multiply rfl rfl rfl hvX1_multiply ⟨(Nat.le_of_ble_eq_true rfl), (Nat.le_of_ble_eq_true rfl)⟩) (bD_pre (ci := 1) (q0 := 0) hK2 hP2 hD2 rfl rfl rfl) rfl rfl hl.1 rfl (lv_room (Nat.le_of_ble_eq_true rfl)) dL_law_356 hf9) hS (fun q9 h => inW_A hD2 h) (fun H locs hPn hz hk hS => ?_)
    have hP : va_P (dC, dI) vwCl ([(o0, .inr (0, [.long (pk a0), .long (pk a1), .long (pkn q w), .int (iI ((w : Nat) : Int))])), (u0, .inl (cJ, 1, .inr (.inl (g))))] ++ [(m0, .inr (1, [.int (iI 1), .ref t0, .ref k0, .ref p0, .int (iI ((w : Nat) : Int))])), (t0, .inl (cI, 24, .inl (fun j => iI ((tb a0 a1 j : Nat) : Int)))), (k0, .inl (cI, 12, .inl (fun j => iI ((K j : Nat) : Int)))), (p0, .inl (cI, 12, .inl (fun j => iI ((q j : Nat) : Int))))]) H := wj_r (w1 := [(o0, .inr (0, [.long (pk a0), .long (pk a1), .long (pkn q w), .int (iI ((w : Nat) : Int))])), (u0, .inl (cJ, 1, .inr (.inl (g))))]) (w2 := [(m0, .inr (1, [.int th, .ref t0, .ref k0, .ref p0, .int (iI ((w : Nat) : Int))])), (t0, .inl (cI, 24, .inl (fun j => iI ((tb a0 a1 j : Nat) : Int)))), (k0, .inl (cI, 12, .inl (fun j => iI ((K j : Nat) : Int)))), (p0, .inl (cI, 12, .inl (fun j => iI ((q j : Nat) : Int))))]) (w2' := [(m0, .inr (1, [.int (iI 1), .ref t0, .ref k0, .ref p0, .int (iI ((w : Nat) : Int))])), (t0, .inl (cI, 24, .inl (fun j => iI ((tb a0 a1 j : Nat) : Int)))), (k0, .inl (cI, 12, .inl (fun j => iI ((K j : Nat) : Int)))), (p0, .inl (cI, 12, .inl (fun j => iI ((q j : Nat) : Int))))]) hP hD hPn hk
    have hD : va_D (LA s) ([(o0, .inr (0, [.long (pk a0), .long (pk a1), .long (pkn q w), .int (iI ((w : Nat) : Int))])), (u0, .inl (cJ, 1, .inr (.inl (g))))] ++ [(m0, .inr (1, [.int (iI 1), .ref t0, .ref k0, .ref p0, .int (iI ((w : Nat) : Int))])), (t0, .inl (cI, 24, .inl (fun j => iI ((tb a0 a1 j : Nat) : Int)))), (k0, .inl (cI, 12, .inl (fun j => iI ((K j : Nat) : Int)))), (p0, .inl (cI, 12, .inl (fun j => iI ((q j : Nat) : Int))))]) := va_D_same (w := ([(o0, .inr (0, [.long (pk a0), .long (pk a1), .long (pkn q w), .int (iI ((w : Nat) : Int))])), (u0, .inl (cJ, 1, .inr (.inl (g))))] ++ [(m0, .inr (1, [.int th, .ref t0, .ref k0, .ref p0, .int (iI ((w : Nat) : Int))])), (t0, .inl (cI, 24, .inl (fun j => iI ((tb a0 a1 j : Nat) : Int)))), (k0, .inl (cI, 12, .inl (fun j => iI ((K j : Nat) : Int)))), (p0, .inl (cI, 12, .inl (fun j => iI ((q j : Nat) : Int))))])) (Eq.trans (b := [o0, u0, m0, t0, k0, p0]) rfl rfl) hD
    refine va_forget hS.2.2 ?_
    have hS := va_S_nil hS
    refine lv_istore (lv' := [(6, .int (iI 0)), (5, .int (iI 1)), (0, .ref b), (1, .ref o0), (2, .ref m0), (3, .ref u0), (4, .int (iI ((5 * n : Nat) : Int)))]) hx hb dL_law_359 hl (by decide) rfl (fun ls hl => ?_)
    refine lv_aload_n hx hb dL_law_361 rfl (lv_at hl 4 rfl) ?_
    have hP2 : va_P (dC, dI) vwCl [(m0, .inr (1, [.int (iI 1), .ref t0, .ref k0, .ref p0, .int (iI ((w : Nat) : Int))])), (t0, .inl (cI, 24, .inl (fun j => iI ((tb a0 a1 j : Nat) : Int)))), (k0, .inl (cI, 12, .inl (fun j => iI ((K j : Nat) : Int)))), (p0, .inl (cI, 12, .inl (fun j => iI ((q j : Nat) : Int))))] H := va_P_r (w1 := [(o0, .inr (0, [.long (pk a0), .long (pk a1), .long (pkn q w), .int (iI ((w : Nat) : Int))])), (u0, .inl (cJ, 1, .inr (.inl (g))))]) (w2 := [(m0, .inr (1, [.int (iI 1), .ref t0, .ref k0, .ref p0, .int (iI ((w : Nat) : Int))])), (t0, .inl (cI, 24, .inl (fun j => iI ((tb a0 a1 j : Nat) : Int)))), (k0, .inl (cI, 12, .inl (fun j => iI ((K j : Nat) : Int)))), (p0, .inl (cI, 12, .inl (fun j => iI ((q j : Nat) : Int))))]) hP
    have hK2 := hK.sub (tys' := [(cI, .int)]) [1] rfl
    have hf9 : cells + 1 + 0 ≤ room_1.cells ∧ slots + 6 + 0 ≤ room_1.slots := ⟨by show cells + 1 + 0 ≤ 1036; omega, by show slots + 6 + 0 ≤ 8286; omega⟩
    refine rd_call (va_runV (As := []) (rest := []) ⟨hx, hb, hml, hown, hts⟩ (mX1_thrown l dC dI cI m0 t0 k0 p0 a0 a1 K q (iI 1) w hp0.1 hp1.1 hw hq) (cwV 0 hts gL_law_X1_thrown rfl rfl rfl hvX1_thrown ⟨(Nat.le_of_ble_eq_true rfl), (Nat.le_of_ble_eq_true rfl)⟩) (bW_pre (ci := 1) (q0 := 0) hK2 hP2 rfl rfl rfl) rfl rfl hl.1 rfl (lv_room (Nat.le_of_ble_eq_true rfl)) dL_law_362 hf9) ?_
    refine lv_iload hx hb dL_law_365 (lv_at hl 1 rfl) ?_
    refine ib_icmp_eq (tgt := 372) hx hb dL_law_367 (by decide) ⟨by omega, by omega⟩ ⟨by omega, by omega⟩ (fun c_367 => ?_) (fun c_367 => absurd c_367 (by decide))
    refine lv_iload hx hb dL_law_372 (lv_at hl 1 rfl) ?_
    refine ib_if_ne (tgt := 389) hx hb dL_law_374 (by decide) ⟨by omega, by omega⟩ (fun c_374 => ?_) (fun c_374 => absurd c_374 (by decide))
    refine lv_goto (tgt := 1833) hx hb dL_law_389 (by decide) ?_
    exact kk a0 a1 q K w (iI 1) (g) H ls ⟨hp0, hp1, hw, hq, hqd, hP, hD, hS⟩ (lv_sub hl [2, 3, 4, 5, 6] rfl)
  by_cases b2 : (z0 = 0 ∨ z0 = 1) ∧ ¬ (z1 = 1 ∨ z1 = 5 ∨ z1 = 7 ∨ z1 = 11)
  · skip
    refine lv_aload_n hx hb dL_law_324 rfl (lv_at hl 1 rfl) ?_
    refine lv_aload_n hx hb dL_law_325 rfl (lv_at hl 0 rfl) ?_
    refine lv_iload hx hb dL_law_326 (lv_at hl 4 rfl) ?_
    refine ib_const hx hb dL_law_328 ?_
    refine ib_add (z := (((5 * n) + 1 : Nat) : Int)) hx hb dL_law_329 (by omega) ?_
    refine st_i (y := iI ((5 * n + 1 : Nat) : Int)) (congrArg iI (by omega)) ?_
    refine va_sld (b := b) (L := L) (xs := xs) hx hb hX hbl hbA hS (iI_vp (i := 5 * n + 1) (by omega) (by omega)) dL_law_330 ?_
    refine st_i (y := iI z0) ((congrArg xs (iI_cl (by omega))).trans e0) ?_
    refine lv_aload_n hx hb dL_law_331 rfl (lv_at hl 0 rfl) ?_
    refine lv_iload hx hb dL_law_332 (lv_at hl 4 rfl) ?_
    refine ib_const hx hb dL_law_334 ?_
    refine ib_add (z := (((5 * n) + 2 : Nat) : Int)) hx hb dL_law_335 (by omega) ?_
    refine st_i (y := iI ((5 * n + 2 : Nat) : Int)) (congrArg iI (by omega)) ?_
    refine va_sld (b := b) (L := L) (xs := xs) hx hb hX hbl hbA hS (iI_vp (i := 5 * n + 2) (by omega) (by omega)) dL_law_336 ?_
    refine st_i (y := iI z1) ((congrArg xs (iI_cl (by omega))).trans e1) ?_
    refine lv_aload_n hx hb dL_law_337 rfl (lv_at hl 3 rfl) ?_
    have hf9 : cells + 1 ≤ room_1.cells ∧ slots + 6 ≤ room_1.slots := ⟨by show cells + 1 ≤ 1036; omega, by show slots + 6 ≤ 8286; omega⟩
    have hP1 : va_P (dC, dI) vwCl [(o0, .inr (0, [.long (pk a0), .long (pk a1), .long (pkn q w), .int (iI ((w : Nat) : Int))]))] H := va_P_l (w1 := [(o0, .inr (0, [.long (pk a0), .long (pk a1), .long (pkn q w), .int (iI ((w : Nat) : Int))]))]) (w2 := [(u0, .inl (cJ, 1, .inr (.inl (g)))), (m0, .inr (1, [.int th, .ref t0, .ref k0, .ref p0, .int (iI ((w : Nat) : Int))])), (t0, .inl (cI, 24, .inl (fun j => iI ((tb a0 a1 j : Nat) : Int)))), (k0, .inl (cI, 12, .inl (fun j => iI ((K j : Nat) : Int)))), (p0, .inl (cI, 12, .inl (fun j => iI ((q j : Nat) : Int))))]) hP
    have hK1 := hK.sub (tys' := []) [] rfl
    refine rdK_call (vx_runSW (As := [.ref o0, .int (iI z0), .int (iI z1), .ref u0]) (rest := []) ⟨hx, hb, hml, hown, hts⟩ (mL_multiply_x2 l hfl dC dI o0 a0 a1 q w hp0 hp1 hw hq hqd u0 z0 z1 hz0 hz1 b2) (vx_cwSW 4 hts gL_law_L_multiply rfl rfl rfl hdL_multiply ⟨(Nat.le_of_ble_eq_true rfl), (Nat.le_of_ble_eq_true rfl)⟩) (bY_preS hK1 hP1 (hG0.at hS) hN) rfl rfl hl.1 rfl (lv_room (Nat.le_of_ble_eq_true rfl)) dL_law_338 hf9) (fun H hz hk => ?_)
    have hP : va_P (dC, dI) vwCl ([(o0, .inr (0, [.long (pk a0), .long (pk a1), .long (pkn q w), .int (iI ((w : Nat) : Int))])), (u0, .inl (cJ, 1, .inr (.inl (g))))] ++ [(m0, .inr (1, [.int th, .ref t0, .ref k0, .ref p0, .int (iI ((w : Nat) : Int))])), (t0, .inl (cI, 24, .inl (fun j => iI ((tb a0 a1 j : Nat) : Int)))), (k0, .inl (cI, 12, .inl (fun j => iI ((K j : Nat) : Int)))), (p0, .inl (cI, 12, .inl (fun j => iI ((q j : Nat) : Int))))]) H := va_P_new hP hk
    have hS := va_S_new hS hz hk
    refine lv_istore (lv' := [(5, .int (iI 2)), (0, .ref b), (1, .ref o0), (2, .ref m0), (3, .ref u0), (4, .int (iI ((5 * n : Nat) : Int)))]) hx hb dL_law_341 hl (by decide) rfl (fun ls hl => ?_)
    refine lv_aload_n hx hb dL_law_343 rfl (lv_at hl 3 rfl) ?_
    refine lv_aload_n hx hb dL_law_344 rfl (lv_at hl 1 rfl) ?_
    refine lv_iload hx hb dL_law_345 (lv_at hl 5 rfl) ?_
    refine ib_const hx hb dL_law_347 ?_
    refine ib_add (z := (((5 * n) + 1 : Nat) : Int)) hx hb dL_law_348 (by omega) ?_
    refine st_i (y := iI ((5 * n + 1 : Nat) : Int)) (congrArg iI (by omega)) ?_
    refine va_sld (b := b) (L := L) (xs := xs) hx hb hX hbl hbA hS (iI_vp (i := 5 * n + 1) (by omega) (by omega)) dL_law_349 ?_
    refine st_i (y := iI z0) ((congrArg xs (iI_cl (by omega))).trans e0) ?_
    refine lv_aload_n hx hb dL_law_350 rfl (lv_at hl 1 rfl) ?_
    refine lv_iload hx hb dL_law_351 (lv_at hl 5 rfl) ?_
    refine ib_const hx hb dL_law_353 ?_
    refine ib_add (z := (((5 * n) + 2 : Nat) : Int)) hx hb dL_law_354 (by omega) ?_
    refine st_i (y := iI ((5 * n + 2 : Nat) : Int)) (congrArg iI (by omega)) ?_
    refine va_sld (b := b) (L := L) (xs := xs) hx hb hX hbl hbA hS (iI_vp (i := 5 * n + 2) (by omega) (by omega)) dL_law_355 ?_
    refine st_i (y := iI z1) ((congrArg xs (iI_cl (by omega))).trans e1) ?_
    have hP2 : va_P (dC, dI) vwCl [(m0, .inr (1, [.int th, .ref t0, .ref k0, .ref p0, .int (iI ((w : Nat) : Int))])), (t0, .inl (cI, 24, .inl (fun j => iI ((tb a0 a1 j : Nat) : Int)))), (k0, .inl (cI, 12, .inl (fun j => iI ((K j : Nat) : Int)))), (p0, .inl (cI, 12, .inl (fun j => iI ((q j : Nat) : Int))))] H := va_P_r (w1 := [(o0, .inr (0, [.long (pk a0), .long (pk a1), .long (pkn q w), .int (iI ((w : Nat) : Int))])), (u0, .inl (cJ, 1, .inr (.inl (g))))]) (w2 := [(m0, .inr (1, [.int th, .ref t0, .ref k0, .ref p0, .int (iI ((w : Nat) : Int))])), (t0, .inl (cI, 24, .inl (fun j => iI ((tb a0 a1 j : Nat) : Int)))), (k0, .inl (cI, 12, .inl (fun j => iI ((K j : Nat) : Int)))), (p0, .inl (cI, 12, .inl (fun j => iI ((q j : Nat) : Int))))]) hP
    have hK2 := hK.sub (tys' := [(cI, .int)]) [1] rfl
    have hf9 : cells + 1 + 0 ≤ room_1.cells ∧ slots + 6 + 0 ≤ room_1.slots := ⟨by show cells + 1 + 0 ≤ 1036; omega, by show slots + 6 + 0 ≤ 8286; omega⟩
    have hD2 : va_D (LA s) [(m0, .inr (1, [.int th, .ref t0, .ref k0, .ref p0, .int (iI ((w : Nat) : Int))])), (t0, .inl (cI, 24, .inl (fun j => iI ((tb a0 a1 j : Nat) : Int)))), (k0, .inl (cI, 12, .inl (fun j => iI ((K j : Nat) : Int)))), (p0, .inl (cI, 12, .inl (fun j => iI ((q j : Nat) : Int))))] := va_D_r (w1 := [(o0, .inr (0, [.long (pk a0), .long (pk a1), .long (pkn q w), .int (iI ((w : Nat) : Int))])), (u0, .inl (cJ, 1, .inr (.inl (g))))]) (w2 := [(m0, .inr (1, [.int th, .ref t0, .ref k0, .ref p0, .int (iI ((w : Nat) : Int))])), (t0, .inl (cI, 24, .inl (fun j => iI ((tb a0 a1 j : Nat) : Int)))), (k0, .inl (cI, 12, .inl (fun j => iI ((K j : Nat) : Int)))), (p0, .inl (cI, 12, .inl (fun j => iI ((q j : Nat) : Int))))]) hD
    refine wr_call (va_runV (As := [.int (iI z0), .int (iI z1)]) (rest := []) ⟨hx, hb, hml, hown, hts⟩ (mX1_multiply_x2 l dC dI cI m0 t0 k0 p0 a0 a1 K q th w hp0.1 hp1.1 hw hq z0 z1 hz0 hz1 b2) (cwV 2 hts gL_law_X1_multiply rfl rfl rfl hvX1_multiply ⟨(Nat.le_of_ble_eq_true rfl), (Nat.le_of_ble_eq_true rfl)⟩) (bD_pre (ci := 1) (q0 := 0) hK2 hP2 hD2 rfl rfl rfl) rfl rfl hl.1 rfl (lv_room (Nat.le_of_ble_eq_true rfl)) dL_law_356 hf9) hS (fun q9 h => inW_A hD2 h) (fun H locs hPn hz hk hS => ?_)
    have hP : va_P (dC, dI) vwCl ([(o0, .inr (0, [.long (pk a0), .long (pk a1), .long (pkn q w), .int (iI ((w : Nat) : Int))])), (u0, .inl (cJ, 1, .inr (.inl (g))))] ++ [(m0, .inr (1, [.int (iI 2), .ref t0, .ref k0, .ref p0, .int (iI ((w : Nat) : Int))])), (t0, .inl (cI, 24, .inl (fun j => iI ((tb a0 a1 j : Nat) : Int)))), (k0, .inl (cI, 12, .inl (fun j => iI ((K j : Nat) : Int)))), (p0, .inl (cI, 12, .inl (fun j => iI ((q j : Nat) : Int))))]) H := wj_r (w1 := [(o0, .inr (0, [.long (pk a0), .long (pk a1), .long (pkn q w), .int (iI ((w : Nat) : Int))])), (u0, .inl (cJ, 1, .inr (.inl (g))))]) (w2 := [(m0, .inr (1, [.int th, .ref t0, .ref k0, .ref p0, .int (iI ((w : Nat) : Int))])), (t0, .inl (cI, 24, .inl (fun j => iI ((tb a0 a1 j : Nat) : Int)))), (k0, .inl (cI, 12, .inl (fun j => iI ((K j : Nat) : Int)))), (p0, .inl (cI, 12, .inl (fun j => iI ((q j : Nat) : Int))))]) (w2' := [(m0, .inr (1, [.int (iI 2), .ref t0, .ref k0, .ref p0, .int (iI ((w : Nat) : Int))])), (t0, .inl (cI, 24, .inl (fun j => iI ((tb a0 a1 j : Nat) : Int)))), (k0, .inl (cI, 12, .inl (fun j => iI ((K j : Nat) : Int)))), (p0, .inl (cI, 12, .inl (fun j => iI ((q j : Nat) : Int))))]) hP hD hPn hk
    have hD : va_D (LA s) ([(o0, .inr (0, [.long (pk a0), .long (pk a1), .long (pkn q w), .int (iI ((w : Nat) : Int))])), (u0, .inl (cJ, 1, .inr (.inl (g))))] ++ [(m0, .inr (1, [.int (iI 2), .ref t0, .ref k0, .ref p0, .int (iI ((w : Nat) : Int))])), (t0, .inl (cI, 24, .inl (fun j => iI ((tb a0 a1 j : Nat) : Int)))), (k0, .inl (cI, 12, .inl (fun j => iI ((K j : Nat) : Int)))), (p0, .inl (cI, 12, .inl (fun j => iI ((q j : Nat) : Int))))]) := va_D_same (w := ([(o0, .inr (0, [.long (pk a0), .long (pk a1), .long (pkn q w), .int (iI ((w : Nat) : Int))])), (u0, .inl (cJ, 1, .inr (.inl (g))))] ++ [(m0, .inr (1, [.int th, .ref t0, .ref k0, .ref p0, .int (iI ((w : Nat) : Int))])), (t0, .inl (cI, 24, .inl (fun j => iI ((tb a0 a1 j : Nat) : Int)))), (k0, .inl (cI, 12, .inl (fun j => iI ((K j : Nat) : Int)))), (p0, .inl (cI, 12, .inl (fun j => iI ((q j : Nat) : Int))))])) (Eq.trans (b := [o0, u0, m0, t0, k0, p0]) rfl rfl) hD
    refine va_forget hS.2.2 ?_
    have hS := va_S_nil hS
    refine lv_istore (lv' := [(6, .int (iI 0)), (5, .int (iI 2)), (0, .ref b), (1, .ref o0), (2, .ref m0), (3, .ref u0), (4, .int (iI ((5 * n : Nat) : Int)))]) hx hb dL_law_359 hl (by decide) rfl (fun ls hl => ?_)
    refine lv_aload_n hx hb dL_law_361 rfl (lv_at hl 4 rfl) ?_
    have hP2 : va_P (dC, dI) vwCl [(m0, .inr (1, [.int (iI 2), .ref t0, .ref k0, .ref p0, .int (iI ((w : Nat) : Int))])), (t0, .inl (cI, 24, .inl (fun j => iI ((tb a0 a1 j : Nat) : Int)))), (k0, .inl (cI, 12, .inl (fun j => iI ((K j : Nat) : Int)))), (p0, .inl (cI, 12, .inl (fun j => iI ((q j : Nat) : Int))))] H := va_P_r (w1 := [(o0, .inr (0, [.long (pk a0), .long (pk a1), .long (pkn q w), .int (iI ((w : Nat) : Int))])), (u0, .inl (cJ, 1, .inr (.inl (g))))]) (w2 := [(m0, .inr (1, [.int (iI 2), .ref t0, .ref k0, .ref p0, .int (iI ((w : Nat) : Int))])), (t0, .inl (cI, 24, .inl (fun j => iI ((tb a0 a1 j : Nat) : Int)))), (k0, .inl (cI, 12, .inl (fun j => iI ((K j : Nat) : Int)))), (p0, .inl (cI, 12, .inl (fun j => iI ((q j : Nat) : Int))))]) hP
    have hK2 := hK.sub (tys' := [(cI, .int)]) [1] rfl
    have hf9 : cells + 1 + 0 ≤ room_1.cells ∧ slots + 6 + 0 ≤ room_1.slots := ⟨by show cells + 1 + 0 ≤ 1036; omega, by show slots + 6 + 0 ≤ 8286; omega⟩
    refine rd_call (va_runV (As := []) (rest := []) ⟨hx, hb, hml, hown, hts⟩ (mX1_thrown l dC dI cI m0 t0 k0 p0 a0 a1 K q (iI 2) w hp0.1 hp1.1 hw hq) (cwV 0 hts gL_law_X1_thrown rfl rfl rfl hvX1_thrown ⟨(Nat.le_of_ble_eq_true rfl), (Nat.le_of_ble_eq_true rfl)⟩) (bW_pre (ci := 1) (q0 := 0) hK2 hP2 rfl rfl rfl) rfl rfl hl.1 rfl (lv_room (Nat.le_of_ble_eq_true rfl)) dL_law_362 hf9) ?_
    refine lv_iload hx hb dL_law_365 (lv_at hl 1 rfl) ?_
    refine ib_icmp_eq (tgt := 372) hx hb dL_law_367 (by decide) ⟨by omega, by omega⟩ ⟨by omega, by omega⟩ (fun c_367 => ?_) (fun c_367 => absurd c_367 (by decide))
    refine lv_iload hx hb dL_law_372 (lv_at hl 1 rfl) ?_
    refine ib_if_ne (tgt := 389) hx hb dL_law_374 (by decide) ⟨by omega, by omega⟩ (fun c_374 => ?_) (fun c_374 => absurd c_374 (by decide))
    refine lv_goto (tgt := 1833) hx hb dL_law_389 (by decide) ?_
    exact kk a0 a1 q K w (iI 2) (g) H ls ⟨hp0, hp1, hw, hq, hqd, hP, hD, hS⟩ (lv_sub hl [2, 3, 4, 5, 6] rfl)
  obtain ⟨r, hn0, rfl⟩ := nat_of (z := z0) (k := 4095) (by omega)
  obtain ⟨f, hn1, rfl⟩ := nat_of (z := z1) (k := 4095) (by omega)
  have hF : Pm (mulF (rw_ r a0 a1) f) := mulF_Pm (rw_Pm hp0 hp1 r) (by omega)
  refine lv_aload_n hx hb dL_law_324 rfl (lv_at hl 1 rfl) ?_
  refine lv_aload_n hx hb dL_law_325 rfl (lv_at hl 0 rfl) ?_
  refine lv_iload hx hb dL_law_326 (lv_at hl 4 rfl) ?_
  refine ib_const hx hb dL_law_328 ?_
  refine ib_add (z := (((5 * n) + 1 : Nat) : Int)) hx hb dL_law_329 (by omega) ?_
  refine st_i (y := iI ((5 * n + 1 : Nat) : Int)) (congrArg iI (by omega)) ?_
  refine va_sld (b := b) (L := L) (xs := xs) hx hb hX hbl hbA hS (iI_vp (i := 5 * n + 1) (by omega) (by omega)) dL_law_330 ?_
  refine st_i (y := iI ((r : Nat) : Int)) ((congrArg xs (iI_cl (by omega))).trans e0) ?_
  refine lv_aload_n hx hb dL_law_331 rfl (lv_at hl 0 rfl) ?_
  refine lv_iload hx hb dL_law_332 (lv_at hl 4 rfl) ?_
  refine ib_const hx hb dL_law_334 ?_
  refine ib_add (z := (((5 * n) + 2 : Nat) : Int)) hx hb dL_law_335 (by omega) ?_
  refine st_i (y := iI ((5 * n + 2 : Nat) : Int)) (congrArg iI (by omega)) ?_
  refine va_sld (b := b) (L := L) (xs := xs) hx hb hX hbl hbA hS (iI_vp (i := 5 * n + 2) (by omega) (by omega)) dL_law_336 ?_
  refine st_i (y := iI ((f : Nat) : Int)) ((congrArg xs (iI_cl (by omega))).trans e1) ?_
  refine lv_aload_n hx hb dL_law_337 rfl (lv_at hl 3 rfl) ?_
  have hf9 : cells + 0 ≤ room_1.cells ∧ slots + 0 ≤ room_1.slots := ⟨by show cells + 0 ≤ 1036; omega, by show slots + 0 ≤ 8286; omega⟩
  have hP1 : va_P (dC, dI) vwCl [(o0, .inr (0, [.long (pk a0), .long (pk a1), .long (pkn q w), .int (iI ((w : Nat) : Int))])), (u0, .inl (cJ, 1, .inr (.inl (g))))] H := va_P_l (w1 := [(o0, .inr (0, [.long (pk a0), .long (pk a1), .long (pkn q w), .int (iI ((w : Nat) : Int))])), (u0, .inl (cJ, 1, .inr (.inl (g))))]) (w2 := [(m0, .inr (1, [.int th, .ref t0, .ref k0, .ref p0, .int (iI ((w : Nat) : Int))])), (t0, .inl (cI, 24, .inl (fun j => iI ((tb a0 a1 j : Nat) : Int)))), (k0, .inl (cI, 12, .inl (fun j => iI ((K j : Nat) : Int)))), (p0, .inl (cI, 12, .inl (fun j => iI ((q j : Nat) : Int))))]) hP
  have hD1 : va_D (LA s) [(o0, .inr (0, [.long (pk a0), .long (pk a1), .long (pkn q w), .int (iI ((w : Nat) : Int))])), (u0, .inl (cJ, 1, .inr (.inl (g))))] := va_D_l (w1 := [(o0, .inr (0, [.long (pk a0), .long (pk a1), .long (pkn q w), .int (iI ((w : Nat) : Int))])), (u0, .inl (cJ, 1, .inr (.inl (g))))]) (w2 := [(m0, .inr (1, [.int th, .ref t0, .ref k0, .ref p0, .int (iI ((w : Nat) : Int))])), (t0, .inl (cI, 24, .inl (fun j => iI ((tb a0 a1 j : Nat) : Int)))), (k0, .inl (cI, 12, .inl (fun j => iI ((K j : Nat) : Int)))), (p0, .inl (cI, 12, .inl (fun j => iI ((q j : Nat) : Int))))]) hD
  have hK1 := hK.sub (tys' := [(cJ, .long)]) [0] rfl
  refine wr_call (vx_runSW (As := [.ref o0, .int (iI ((r : Nat) : Int)), .int (iI ((f : Nat) : Int)), .ref u0]) (rest := []) ⟨hx, hb, hml, hown, hts⟩ (mL_multiply_ok l dC dI cJ o0 u0 a0 a1 q w hp0 hp1 hw hq hqd g r f (by omega) (by omega)) (vx_cwSW 4 hts gL_law_L_multiply rfl rfl rfl hdL_multiply ⟨(Nat.le_of_ble_eq_true rfl), (Nat.le_of_ble_eq_true rfl)⟩) (bD_preS hK1 hP1 hD1) rfl rfl hl.1 rfl (lv_room (Nat.le_of_ble_eq_true rfl)) dL_law_338 hf9) hS (fun q9 h => inW_A hD1 h) (fun H locs hPn hz hk hS => ?_)
  have hP : va_P (dC, dI) vwCl ([(o0, .inr (0, [.long (pk (sr0 r (mulF (rw_ r a0 a1) f) a0)), .long (pk (sr1 r (mulF (rw_ r a0 a1) f) a1)), .long (pkn q w), .int (iI ((w : Nat) : Int))])), (u0, .inl (cJ, 1, .inr (.inl (fun _ => (iI ((mulF (rw_ r a0 a1) f 0 : Nat) : Int)).toInt64))))] ++ [(m0, .inr (1, [.int th, .ref t0, .ref k0, .ref p0, .int (iI ((w : Nat) : Int))])), (t0, .inl (cI, 24, .inl (fun j => iI ((tb a0 a1 j : Nat) : Int)))), (k0, .inl (cI, 12, .inl (fun j => iI ((K j : Nat) : Int)))), (p0, .inl (cI, 12, .inl (fun j => iI ((q j : Nat) : Int))))]) H := wj_l (w1 := [(o0, .inr (0, [.long (pk a0), .long (pk a1), .long (pkn q w), .int (iI ((w : Nat) : Int))])), (u0, .inl (cJ, 1, .inr (.inl (g))))]) (w2 := [(m0, .inr (1, [.int th, .ref t0, .ref k0, .ref p0, .int (iI ((w : Nat) : Int))])), (t0, .inl (cI, 24, .inl (fun j => iI ((tb a0 a1 j : Nat) : Int)))), (k0, .inl (cI, 12, .inl (fun j => iI ((K j : Nat) : Int)))), (p0, .inl (cI, 12, .inl (fun j => iI ((q j : Nat) : Int))))]) (w1' := [(o0, .inr (0, [.long (pk (sr0 r (mulF (rw_ r a0 a1) f) a0)), .long (pk (sr1 r (mulF (rw_ r a0 a1) f) a1)), .long (pkn q w), .int (iI ((w : Nat) : Int))])), (u0, .inl (cJ, 1, .inr (.inl (fun _ => (iI ((mulF (rw_ r a0 a1) f 0 : Nat) : Int)).toInt64))))]) hP hD hPn hk
  have hD : va_D (LA s) ([(o0, .inr (0, [.long (pk (sr0 r (mulF (rw_ r a0 a1) f) a0)), .long (pk (sr1 r (mulF (rw_ r a0 a1) f) a1)), .long (pkn q w), .int (iI ((w : Nat) : Int))])), (u0, .inl (cJ, 1, .inr (.inl (fun _ => (iI ((mulF (rw_ r a0 a1) f 0 : Nat) : Int)).toInt64))))] ++ [(m0, .inr (1, [.int th, .ref t0, .ref k0, .ref p0, .int (iI ((w : Nat) : Int))])), (t0, .inl (cI, 24, .inl (fun j => iI ((tb a0 a1 j : Nat) : Int)))), (k0, .inl (cI, 12, .inl (fun j => iI ((K j : Nat) : Int)))), (p0, .inl (cI, 12, .inl (fun j => iI ((q j : Nat) : Int))))]) := va_D_same (w := ([(o0, .inr (0, [.long (pk a0), .long (pk a1), .long (pkn q w), .int (iI ((w : Nat) : Int))])), (u0, .inl (cJ, 1, .inr (.inl (g))))] ++ [(m0, .inr (1, [.int th, .ref t0, .ref k0, .ref p0, .int (iI ((w : Nat) : Int))])), (t0, .inl (cI, 24, .inl (fun j => iI ((tb a0 a1 j : Nat) : Int)))), (k0, .inl (cI, 12, .inl (fun j => iI ((K j : Nat) : Int)))), (p0, .inl (cI, 12, .inl (fun j => iI ((q j : Nat) : Int))))])) (Eq.trans (b := [o0, u0, m0, t0, k0, p0]) rfl rfl) hD
  refine va_forget hS.2.2 ?_
  have hS := va_S_nil hS
  refine W.widen (k := cells + 1) (n := slots + 6) (by omega) (by omega) ?_
  refine lv_istore (lv' := [(5, .int (iI 0)), (0, .ref b), (1, .ref o0), (2, .ref m0), (3, .ref u0), (4, .int (iI ((5 * n : Nat) : Int)))]) hx hb dL_law_341 hl (by decide) rfl (fun ls hl => ?_)
  refine lv_aload_n hx hb dL_law_343 rfl (lv_at hl 3 rfl) ?_
  refine lv_aload_n hx hb dL_law_344 rfl (lv_at hl 1 rfl) ?_
  refine lv_iload hx hb dL_law_345 (lv_at hl 5 rfl) ?_
  refine ib_const hx hb dL_law_347 ?_
  refine ib_add (z := (((5 * n) + 1 : Nat) : Int)) hx hb dL_law_348 (by omega) ?_
  refine st_i (y := iI ((5 * n + 1 : Nat) : Int)) (congrArg iI (by omega)) ?_
  refine va_sld (b := b) (L := L) (xs := xs) hx hb hX hbl hbA hS (iI_vp (i := 5 * n + 1) (by omega) (by omega)) dL_law_349 ?_
  refine st_i (y := iI ((r : Nat) : Int)) ((congrArg xs (iI_cl (by omega))).trans e0) ?_
  refine lv_aload_n hx hb dL_law_350 rfl (lv_at hl 1 rfl) ?_
  refine lv_iload hx hb dL_law_351 (lv_at hl 5 rfl) ?_
  refine ib_const hx hb dL_law_353 ?_
  refine ib_add (z := (((5 * n) + 2 : Nat) : Int)) hx hb dL_law_354 (by omega) ?_
  refine st_i (y := iI ((5 * n + 2 : Nat) : Int)) (congrArg iI (by omega)) ?_
  refine va_sld (b := b) (L := L) (xs := xs) hx hb hX hbl hbA hS (iI_vp (i := 5 * n + 2) (by omega) (by omega)) dL_law_355 ?_
  refine st_i (y := iI ((f : Nat) : Int)) ((congrArg xs (iI_cl (by omega))).trans e1) ?_
  have hP2 : va_P (dC, dI) vwCl [(m0, .inr (1, [.int th, .ref t0, .ref k0, .ref p0, .int (iI ((w : Nat) : Int))])), (t0, .inl (cI, 24, .inl (fun j => iI ((tb a0 a1 j : Nat) : Int)))), (k0, .inl (cI, 12, .inl (fun j => iI ((K j : Nat) : Int)))), (p0, .inl (cI, 12, .inl (fun j => iI ((q j : Nat) : Int))))] H := va_P_r (w1 := [(o0, .inr (0, [.long (pk (sr0 r (mulF (rw_ r a0 a1) f) a0)), .long (pk (sr1 r (mulF (rw_ r a0 a1) f) a1)), .long (pkn q w), .int (iI ((w : Nat) : Int))])), (u0, .inl (cJ, 1, .inr (.inl (fun _ => (iI ((mulF (rw_ r a0 a1) f 0 : Nat) : Int)).toInt64))))]) (w2 := [(m0, .inr (1, [.int th, .ref t0, .ref k0, .ref p0, .int (iI ((w : Nat) : Int))])), (t0, .inl (cI, 24, .inl (fun j => iI ((tb a0 a1 j : Nat) : Int)))), (k0, .inl (cI, 12, .inl (fun j => iI ((K j : Nat) : Int)))), (p0, .inl (cI, 12, .inl (fun j => iI ((q j : Nat) : Int))))]) hP
  have hK2 := hK.sub (tys' := [(cI, .int)]) [1] rfl
  have hf9 : cells + 1 + 0 ≤ room_1.cells ∧ slots + 6 + 0 ≤ room_1.slots := ⟨by show cells + 1 + 0 ≤ 1036; omega, by show slots + 6 + 0 ≤ 8286; omega⟩
  have hD2 : va_D (LA s) [(m0, .inr (1, [.int th, .ref t0, .ref k0, .ref p0, .int (iI ((w : Nat) : Int))])), (t0, .inl (cI, 24, .inl (fun j => iI ((tb a0 a1 j : Nat) : Int)))), (k0, .inl (cI, 12, .inl (fun j => iI ((K j : Nat) : Int)))), (p0, .inl (cI, 12, .inl (fun j => iI ((q j : Nat) : Int))))] := va_D_r (w1 := [(o0, .inr (0, [.long (pk (sr0 r (mulF (rw_ r a0 a1) f) a0)), .long (pk (sr1 r (mulF (rw_ r a0 a1) f) a1)), .long (pkn q w), .int (iI ((w : Nat) : Int))])), (u0, .inl (cJ, 1, .inr (.inl (fun _ => (iI ((mulF (rw_ r a0 a1) f 0 : Nat) : Int)).toInt64))))]) (w2 := [(m0, .inr (1, [.int th, .ref t0, .ref k0, .ref p0, .int (iI ((w : Nat) : Int))])), (t0, .inl (cI, 24, .inl (fun j => iI ((tb a0 a1 j : Nat) : Int)))), (k0, .inl (cI, 12, .inl (fun j => iI ((K j : Nat) : Int)))), (p0, .inl (cI, 12, .inl (fun j => iI ((q j : Nat) : Int))))]) hD
  refine wr_call (va_runV (As := [.int (iI ((r : Nat) : Int)), .int (iI ((f : Nat) : Int))]) (rest := []) ⟨hx, hb, hml, hown, hts⟩ (mX1_multiply_ok l dC dI cI m0 t0 k0 p0 a0 a1 K q th w hp0.1 hp1.1 hw hq r f (by omega) (by omega)) (cwV 2 hts gL_law_X1_multiply rfl rfl rfl hvX1_multiply ⟨(Nat.le_of_ble_eq_true rfl), (Nat.le_of_ble_eq_true rfl)⟩) (bD_pre (ci := 1) (q0 := 0) hK2 hP2 hD2 rfl rfl rfl) rfl rfl hl.1 rfl (lv_room (Nat.le_of_ble_eq_true rfl)) dL_law_356 hf9) hS (fun q9 h => inW_A hD2 h) (fun H locs hPn hz hk hS => ?_)
  have hP : va_P (dC, dI) vwCl ([(o0, .inr (0, [.long (pk (sr0 r (mulF (rw_ r a0 a1) f) a0)), .long (pk (sr1 r (mulF (rw_ r a0 a1) f) a1)), .long (pkn q w), .int (iI ((w : Nat) : Int))])), (u0, .inl (cJ, 1, .inr (.inl (fun _ => (iI ((mulF (rw_ r a0 a1) f 0 : Nat) : Int)).toInt64))))] ++ [(m0, .inr (1, [.int (iI 0), .ref t0, .ref k0, .ref p0, .int (iI ((w : Nat) : Int))])), (t0, .inl (cI, 24, .inl (fun j => iI ((tb (sr0 r (mulF (rw_ r a0 a1) f) a0) (sr1 r (mulF (rw_ r a0 a1) f) a1) j : Nat) : Int)))), (k0, .inl (cI, 12, .inl (fun j => iI (((mx (mulF (rw_ r a0 a1) f) K 12) j : Nat) : Int)))), (p0, .inl (cI, 12, .inl (fun j => iI ((q j : Nat) : Int))))]) H := wj_r (w1 := [(o0, .inr (0, [.long (pk (sr0 r (mulF (rw_ r a0 a1) f) a0)), .long (pk (sr1 r (mulF (rw_ r a0 a1) f) a1)), .long (pkn q w), .int (iI ((w : Nat) : Int))])), (u0, .inl (cJ, 1, .inr (.inl (fun _ => (iI ((mulF (rw_ r a0 a1) f 0 : Nat) : Int)).toInt64))))]) (w2 := [(m0, .inr (1, [.int th, .ref t0, .ref k0, .ref p0, .int (iI ((w : Nat) : Int))])), (t0, .inl (cI, 24, .inl (fun j => iI ((tb a0 a1 j : Nat) : Int)))), (k0, .inl (cI, 12, .inl (fun j => iI ((K j : Nat) : Int)))), (p0, .inl (cI, 12, .inl (fun j => iI ((q j : Nat) : Int))))]) (w2' := [(m0, .inr (1, [.int (iI 0), .ref t0, .ref k0, .ref p0, .int (iI ((w : Nat) : Int))])), (t0, .inl (cI, 24, .inl (fun j => iI ((tb (sr0 r (mulF (rw_ r a0 a1) f) a0) (sr1 r (mulF (rw_ r a0 a1) f) a1) j : Nat) : Int)))), (k0, .inl (cI, 12, .inl (fun j => iI (((mx (mulF (rw_ r a0 a1) f) K 12) j : Nat) : Int)))), (p0, .inl (cI, 12, .inl (fun j => iI ((q j : Nat) : Int))))]) hP hD hPn hk
  have hD : va_D (LA s) ([(o0, .inr (0, [.long (pk (sr0 r (mulF (rw_ r a0 a1) f) a0)), .long (pk (sr1 r (mulF (rw_ r a0 a1) f) a1)), .long (pkn q w), .int (iI ((w : Nat) : Int))])), (u0, .inl (cJ, 1, .inr (.inl (fun _ => (iI ((mulF (rw_ r a0 a1) f 0 : Nat) : Int)).toInt64))))] ++ [(m0, .inr (1, [.int (iI 0), .ref t0, .ref k0, .ref p0, .int (iI ((w : Nat) : Int))])), (t0, .inl (cI, 24, .inl (fun j => iI ((tb (sr0 r (mulF (rw_ r a0 a1) f) a0) (sr1 r (mulF (rw_ r a0 a1) f) a1) j : Nat) : Int)))), (k0, .inl (cI, 12, .inl (fun j => iI (((mx (mulF (rw_ r a0 a1) f) K 12) j : Nat) : Int)))), (p0, .inl (cI, 12, .inl (fun j => iI ((q j : Nat) : Int))))]) := va_D_same (w := ([(o0, .inr (0, [.long (pk (sr0 r (mulF (rw_ r a0 a1) f) a0)), .long (pk (sr1 r (mulF (rw_ r a0 a1) f) a1)), .long (pkn q w), .int (iI ((w : Nat) : Int))])), (u0, .inl (cJ, 1, .inr (.inl (fun _ => (iI ((mulF (rw_ r a0 a1) f 0 : Nat) : Int)).toInt64))))] ++ [(m0, .inr (1, [.int th, .ref t0, .ref k0, .ref p0, .int (iI ((w : Nat) : Int))])), (t0, .inl (cI, 24, .inl (fun j => iI ((tb a0 a1 j : Nat) : Int)))), (k0, .inl (cI, 12, .inl (fun j => iI ((K j : Nat) : Int)))), (p0, .inl (cI, 12, .inl (fun j => iI ((q j : Nat) : Int))))])) (Eq.trans (b := [o0, u0, m0, t0, k0, p0]) rfl rfl) hD
  refine va_forget hS.2.2 ?_
  have hS := va_S_nil hS
  refine lv_istore (lv' := [(6, .int (iI ((mulF (rw_ r a0 a1) f 0 : Nat) : Int))), (5, .int (iI 0)), (0, .ref b), (1, .ref o0), (2, .ref m0), (3, .ref u0), (4, .int (iI ((5 * n : Nat) : Int)))]) hx hb dL_law_359 hl (by decide) rfl (fun ls hl => ?_)
  refine lv_aload_n hx hb dL_law_361 rfl (lv_at hl 4 rfl) ?_
  have hP2 : va_P (dC, dI) vwCl [(m0, .inr (1, [.int (iI 0), .ref t0, .ref k0, .ref p0, .int (iI ((w : Nat) : Int))])), (t0, .inl (cI, 24, .inl (fun j => iI ((tb (sr0 r (mulF (rw_ r a0 a1) f) a0) (sr1 r (mulF (rw_ r a0 a1) f) a1) j : Nat) : Int)))), (k0, .inl (cI, 12, .inl (fun j => iI (((mx (mulF (rw_ r a0 a1) f) K 12) j : Nat) : Int)))), (p0, .inl (cI, 12, .inl (fun j => iI ((q j : Nat) : Int))))] H := va_P_r (w1 := [(o0, .inr (0, [.long (pk (sr0 r (mulF (rw_ r a0 a1) f) a0)), .long (pk (sr1 r (mulF (rw_ r a0 a1) f) a1)), .long (pkn q w), .int (iI ((w : Nat) : Int))])), (u0, .inl (cJ, 1, .inr (.inl (fun _ => (iI ((mulF (rw_ r a0 a1) f 0 : Nat) : Int)).toInt64))))]) (w2 := [(m0, .inr (1, [.int (iI 0), .ref t0, .ref k0, .ref p0, .int (iI ((w : Nat) : Int))])), (t0, .inl (cI, 24, .inl (fun j => iI ((tb (sr0 r (mulF (rw_ r a0 a1) f) a0) (sr1 r (mulF (rw_ r a0 a1) f) a1) j : Nat) : Int)))), (k0, .inl (cI, 12, .inl (fun j => iI (((mx (mulF (rw_ r a0 a1) f) K 12) j : Nat) : Int)))), (p0, .inl (cI, 12, .inl (fun j => iI ((q j : Nat) : Int))))]) hP
  have hK2 := hK.sub (tys' := [(cI, .int)]) [1] rfl
  have hf9 : cells + 1 + 0 ≤ room_1.cells ∧ slots + 6 + 0 ≤ room_1.slots := ⟨by show cells + 1 + 0 ≤ 1036; omega, by show slots + 6 + 0 ≤ 8286; omega⟩
  refine rd_call (va_runV (As := []) (rest := []) ⟨hx, hb, hml, hown, hts⟩ (mX1_thrown l dC dI cI m0 t0 k0 p0 (sr0 r (mulF (rw_ r a0 a1) f) a0) (sr1 r (mulF (rw_ r a0 a1) f) a1) (mx (mulF (rw_ r a0 a1) f) K 12) q (iI 0) w (sr0_Pm r hF hp0).1 (sr1_Pm r hF hp1).1 hw hq) (cwV 0 hts gL_law_X1_thrown rfl rfl rfl hvX1_thrown ⟨(Nat.le_of_ble_eq_true rfl), (Nat.le_of_ble_eq_true rfl)⟩) (bW_pre (ci := 1) (q0 := 0) hK2 hP2 rfl rfl rfl) rfl rfl hl.1 rfl (lv_room (Nat.le_of_ble_eq_true rfl)) dL_law_362 hf9) ?_
  refine lv_iload hx hb dL_law_365 (lv_at hl 1 rfl) ?_
  refine ib_icmp_eq (tgt := 372) hx hb dL_law_367 (by decide) ⟨by omega, by omega⟩ ⟨by omega, by omega⟩ (fun c_367 => ?_) (fun c_367 => absurd c_367 (by decide))
  refine lv_iload hx hb dL_law_372 (lv_at hl 1 rfl) ?_
  refine ib_if_ne (tgt := 389) hx hb dL_law_374 (by decide) ⟨by omega, by omega⟩ (fun c_374 => absurd c_374 (by decide)) (fun c_374 => ?_)
  refine lv_aload_n hx hb dL_law_377 rfl (lv_at hl 5 rfl) ?_
  refine ib_const hx hb dL_law_378 ?_
  refine va_lald hx hb hK hP 1 0 rfl rfl vp0 dL_law_379 ?_
  refine st_l (y := (iI ((mulF (rw_ r a0 a1) f 0 : Nat) : Int)).toInt64) rfl ?_
  refine lv_iload hx hb dL_law_380 (lv_at hl 0 rfl) ?_
  refine lv_i2l hx hb dL_law_382 rfl ?_
  refine W.lcmp hx hb dL_law_383 ?_
  refine bl_eq (tgt := 389) hx hb dL_law_384 (by decide) (fun _ => ?_) (fun h => absurd rfl h)
  refine lv_goto (tgt := 1833) hx hb dL_law_389 (by decide) ?_
  exact kk (sr0 r (mulF (rw_ r a0 a1) f) a0) (sr1 r (mulF (rw_ r a0 a1) f) a1) q (mx (mulF (rw_ r a0 a1) f) K 12) w (iI 0) (fun _ => (iI ((mulF (rw_ r a0 a1) f 0 : Nat) : Int)).toInt64) H ls ⟨(sr0_Pm r hF hp0), (sr1_Pm r hF hp1), hw, hq, hqd, hP, hD, hS⟩ (lv_sub hl [2, 3, 4, 5, 6] rfl)

set_option maxHeartbeats 4000000 in
set_option maxRecDepth 100000 in
theorem law_c3 {p : Program} {l : Launch} {e : Env} {s : State} {m : MethodId} {below : List Frame} {meth : Method} {c : Code} {Q : State → Prop} {dC : Nat → ClassId} {dI : Nat → Nat → Nat} {cI cJ : ClassId} {b L : Nat} {xs : Nat → Int32} (C : LC p l s m meth c (dC, dI) cI cJ b L xs) {o0 u0 m0 t0 k0 p0 : Nat} {a0 a1 q K : Nat → Nat} {w : Nat} {th : Int32} {g : Nat → Int64} {H : Heap} (hI : LI s (dC, dI) cI cJ o0 u0 m0 t0 k0 p0 a0 a1 q K w th g H) {n cells slots : Nat} (hc1 : cells + 1 ≤ 1036) (hc2 : slots + 6 ≤ 8286) (hn : 5 * n + 5 ≤ L) (hL : L ≤ 2560) {ls : Array Slot} (hl : lv_has ls 8 [(0, .ref b), (1, .ref o0), (2, .ref m0), (3, .ref u0), (4, .int (iI ((5 * n : Nat) : Int)))])
    (kk : ∀ (a0 a1 q K : Nat → Nat) (w : Nat) (th : Int32) (g : Nat → Int64) (H : Heap) (ls : Array Slot), LI s (dC, dI) cI cJ o0 u0 m0 t0 k0 p0 a0 a1 q K w th g H → lv_has ls 8 [(0, .ref b), (1, .ref o0), (2, .ref m0), (3, .ref u0), (4, .int (iI ((5 * n : Nat) : Int)))] → W p l e room_1 s m #[Value.ref b] below meth c H [] (cells + 1) (slots + 6) Q (F0 m 1833 ls [])) : W p l e room_1 s m #[Value.ref b] below meth c H [] cells slots Q (F0 m 392 ls []) := by
  obtain ⟨hx, hb, hml, hown, hts, hK, hG0, hN, hX, hbl, hfl⟩ := C
  obtain ⟨hp0, hp1, hw, hq, hqd, hP, hD, hS⟩ := hI
  have hbA : ¬ LA s b := Nat.not_le.mpr hbl
  obtain ⟨z0, hz0, e0⟩ := ex_i (xs (5 * n + 1))
  obtain ⟨z1, hz1, e1⟩ := ex_i (xs (5 * n + 2))
  have hza0 := hz0.1
  have hzb0 := hz0.2
  have hza1 := hz1.1
  have hzb1 := hz1.2
  by_cases b1 : ¬ (z0 = 0 ∨ z0 = 1)
  · skip
    refine lv_aload_n hx hb dL_law_392 rfl (lv_at hl 1 rfl) ?_
    refine lv_aload_n hx hb dL_law_393 rfl (lv_at hl 0 rfl) ?_
    refine lv_iload hx hb dL_law_394 (lv_at hl 4 rfl) ?_
    refine ib_const hx hb dL_law_396 ?_
    refine ib_add (z := (((5 * n) + 1 : Nat) : Int)) hx hb dL_law_397 (by omega) ?_
    refine st_i (y := iI ((5 * n + 1 : Nat) : Int)) (congrArg iI (by omega)) ?_
    refine va_sld (b := b) (L := L) (xs := xs) hx hb hX hbl hbA hS (iI_vp (i := 5 * n + 1) (by omega) (by omega)) dL_law_398 ?_
    refine st_i (y := iI z0) ((congrArg xs (iI_cl (by omega))).trans e0) ?_
    refine lv_aload_n hx hb dL_law_399 rfl (lv_at hl 0 rfl) ?_
    refine lv_iload hx hb dL_law_400 (lv_at hl 4 rfl) ?_
    refine ib_const hx hb dL_law_402 ?_
    refine ib_add (z := (((5 * n) + 2 : Nat) : Int)) hx hb dL_law_403 (by omega) ?_
    refine st_i (y := iI ((5 * n + 2 : Nat) : Int)) (congrArg iI (by omega)) ?_
    refine va_sld (b := b) (L := L) (xs := xs) hx hb hX hbl hbA hS (iI_vp (i := 5 * n + 2) (by omega) (by omega)) dL_law_404 ?_
    refine st_i (y := iI z1) ((congrArg xs (iI_cl (by omega))).trans e1) ?_
    refine lv_aload_n hx hb dL_law_405 rfl (lv_at hl 3 rfl) ?_
    have hf9 : cells + 1 ≤ room_1.cells ∧ slots + 6 ≤ room_1.slots := ⟨by show cells + 1 ≤ 1036; omega, by show slots + 6 ≤ 8286; omega⟩
    have hP1 : va_P (dC, dI) vwCl [(o0, .inr (0, [.long (pk a0), .long (pk a1), .long (pkn q w), .int (iI ((w : Nat) : Int))]))] H := va_P_l (w1 := [(o0, .inr (0, [.long (pk a0), .long (pk a1), .long (pkn q w), .int (iI ((w : Nat) : Int))]))]) (w2 := [(u0, .inl (cJ, 1, .inr (.inl (g)))), (m0, .inr (1, [.int th, .ref t0, .ref k0, .ref p0, .int (iI ((w : Nat) : Int))])), (t0, .inl (cI, 24, .inl (fun j => iI ((tb a0 a1 j : Nat) : Int)))), (k0, .inl (cI, 12, .inl (fun j => iI ((K j : Nat) : Int)))), (p0, .inl (cI, 12, .inl (fun j => iI ((q j : Nat) : Int))))]) hP
    have hK1 := hK.sub (tys' := []) [] rfl
    refine rdK_call (vx_runSW (As := [.ref o0, .int (iI z0), .int (iI z1), .ref u0]) (rest := []) ⟨hx, hb, hml, hown, hts⟩ (mL_rotate_x1 l hfl dC dI o0 a0 a1 q w hp0 hp1 hw hq hqd u0 z0 z1 hz0 hz1 b1) (vx_cwSW 4 hts gL_law_L_rotate rfl rfl rfl hdL_rotate ⟨(Nat.le_of_ble_eq_true rfl), (Nat.le_of_ble_eq_true rfl)⟩) (bY_preS hK1 hP1 (hG0.at hS) hN) rfl rfl hl.1 rfl (lv_room (Nat.le_of_ble_eq_true rfl)) dL_law_406 hf9) (fun H hz hk => ?_)
    have hP : va_P (dC, dI) vwCl ([(o0, .inr (0, [.long (pk a0), .long (pk a1), .long (pkn q w), .int (iI ((w : Nat) : Int))])), (u0, .inl (cJ, 1, .inr (.inl (g))))] ++ [(m0, .inr (1, [.int th, .ref t0, .ref k0, .ref p0, .int (iI ((w : Nat) : Int))])), (t0, .inl (cI, 24, .inl (fun j => iI ((tb a0 a1 j : Nat) : Int)))), (k0, .inl (cI, 12, .inl (fun j => iI ((K j : Nat) : Int)))), (p0, .inl (cI, 12, .inl (fun j => iI ((q j : Nat) : Int))))]) H := va_P_new hP hk
    have hS := va_S_new hS hz hk
    refine lv_istore (lv' := [(5, .int (iI 1)), (0, .ref b), (1, .ref o0), (2, .ref m0), (3, .ref u0), (4, .int (iI ((5 * n : Nat) : Int)))]) hx hb dL_law_409 hl (by decide) rfl (fun ls hl => ?_)
    refine lv_aload_n hx hb dL_law_411 rfl (lv_at hl 3 rfl) ?_
    refine lv_aload_n hx hb dL_law_412 rfl (lv_at hl 1 rfl) ?_
    refine lv_iload hx hb dL_law_413 (lv_at hl 5 rfl) ?_
    refine ib_const hx hb dL_law_415 ?_
    refine ib_add (z := (((5 * n) + 1 : Nat) : Int)) hx hb dL_law_416 (by omega) ?_
    refine st_i (y := iI ((5 * n + 1 : Nat) : Int)) (congrArg iI (by omega)) ?_
    refine va_sld (b := b) (L := L) (xs := xs) hx hb hX hbl hbA hS (iI_vp (i := 5 * n + 1) (by omega) (by omega)) dL_law_417 ?_
    refine st_i (y := iI z0) ((congrArg xs (iI_cl (by omega))).trans e0) ?_
    refine lv_aload_n hx hb dL_law_418 rfl (lv_at hl 1 rfl) ?_
    refine lv_iload hx hb dL_law_419 (lv_at hl 5 rfl) ?_
    refine ib_const hx hb dL_law_421 ?_
    refine ib_add (z := (((5 * n) + 2 : Nat) : Int)) hx hb dL_law_422 (by omega) ?_
    refine st_i (y := iI ((5 * n + 2 : Nat) : Int)) (congrArg iI (by omega)) ?_
    refine va_sld (b := b) (L := L) (xs := xs) hx hb hX hbl hbA hS (iI_vp (i := 5 * n + 2) (by omega) (by omega)) dL_law_423 ?_
    refine st_i (y := iI z1) ((congrArg xs (iI_cl (by omega))).trans e1) ?_
    have hP2 : va_P (dC, dI) vwCl [(m0, .inr (1, [.int th, .ref t0, .ref k0, .ref p0, .int (iI ((w : Nat) : Int))])), (t0, .inl (cI, 24, .inl (fun j => iI ((tb a0 a1 j : Nat) : Int)))), (k0, .inl (cI, 12, .inl (fun j => iI ((K j : Nat) : Int)))), (p0, .inl (cI, 12, .inl (fun j => iI ((q j : Nat) : Int))))] H := va_P_r (w1 := [(o0, .inr (0, [.long (pk a0), .long (pk a1), .long (pkn q w), .int (iI ((w : Nat) : Int))])), (u0, .inl (cJ, 1, .inr (.inl (g))))]) (w2 := [(m0, .inr (1, [.int th, .ref t0, .ref k0, .ref p0, .int (iI ((w : Nat) : Int))])), (t0, .inl (cI, 24, .inl (fun j => iI ((tb a0 a1 j : Nat) : Int)))), (k0, .inl (cI, 12, .inl (fun j => iI ((K j : Nat) : Int)))), (p0, .inl (cI, 12, .inl (fun j => iI ((q j : Nat) : Int))))]) hP
    have hK2 := hK.sub (tys' := [(cI, .int)]) [1] rfl
    have hf9 : cells + 1 + 0 ≤ room_1.cells ∧ slots + 6 + 0 ≤ room_1.slots := ⟨by show cells + 1 + 0 ≤ 1036; omega, by show slots + 6 + 0 ≤ 8286; omega⟩
    have hD2 : va_D (LA s) [(m0, .inr (1, [.int th, .ref t0, .ref k0, .ref p0, .int (iI ((w : Nat) : Int))])), (t0, .inl (cI, 24, .inl (fun j => iI ((tb a0 a1 j : Nat) : Int)))), (k0, .inl (cI, 12, .inl (fun j => iI ((K j : Nat) : Int)))), (p0, .inl (cI, 12, .inl (fun j => iI ((q j : Nat) : Int))))] := va_D_r (w1 := [(o0, .inr (0, [.long (pk a0), .long (pk a1), .long (pkn q w), .int (iI ((w : Nat) : Int))])), (u0, .inl (cJ, 1, .inr (.inl (g))))]) (w2 := [(m0, .inr (1, [.int th, .ref t0, .ref k0, .ref p0, .int (iI ((w : Nat) : Int))])), (t0, .inl (cI, 24, .inl (fun j => iI ((tb a0 a1 j : Nat) : Int)))), (k0, .inl (cI, 12, .inl (fun j => iI ((K j : Nat) : Int)))), (p0, .inl (cI, 12, .inl (fun j => iI ((q j : Nat) : Int))))]) hD
    refine wr_call (va_runV (As := [.int (iI z0), .int (iI z1)]) (rest := []) ⟨hx, hb, hml, hown, hts⟩ (mX1_rotate_x1 l dC dI cI m0 t0 k0 p0 a0 a1 K q th w hp0.1 hp1.1 hw hq z0 z1 hz0 hz1 b1) (cwV 2 hts gL_law_X1_rotate rfl rfl rfl hvX1_rotate ⟨(Nat.le_of_ble_eq_true rfl), (Nat.le_of_ble_eq_true rfl)⟩) (bD_pre (ci := 1) (q0 := 0) hK2 hP2 hD2 rfl rfl rfl) rfl rfl hl.1 rfl (lv_room (Nat.le_of_ble_eq_true rfl)) dL_law_424 hf9) hS (fun q9 h => inW_A hD2 h) (fun H locs hPn hz hk hS => ?_)
    have hP : va_P (dC, dI) vwCl ([(o0, .inr (0, [.long (pk a0), .long (pk a1), .long (pkn q w), .int (iI ((w : Nat) : Int))])), (u0, .inl (cJ, 1, .inr (.inl (g))))] ++ [(m0, .inr (1, [.int (iI 1), .ref t0, .ref k0, .ref p0, .int (iI ((w : Nat) : Int))])), (t0, .inl (cI, 24, .inl (fun j => iI ((tb a0 a1 j : Nat) : Int)))), (k0, .inl (cI, 12, .inl (fun j => iI ((K j : Nat) : Int)))), (p0, .inl (cI, 12, .inl (fun j => iI ((q j : Nat) : Int))))]) H := wj_r (w1 := [(o0, .inr (0, [.long (pk a0), .long (pk a1), .long (pkn q w), .int (iI ((w : Nat) : Int))])), (u0, .inl (cJ, 1, .inr (.inl (g))))]) (w2 := [(m0, .inr (1, [.int th, .ref t0, .ref k0, .ref p0, .int (iI ((w : Nat) : Int))])), (t0, .inl (cI, 24, .inl (fun j => iI ((tb a0 a1 j : Nat) : Int)))), (k0, .inl (cI, 12, .inl (fun j => iI ((K j : Nat) : Int)))), (p0, .inl (cI, 12, .inl (fun j => iI ((q j : Nat) : Int))))]) (w2' := [(m0, .inr (1, [.int (iI 1), .ref t0, .ref k0, .ref p0, .int (iI ((w : Nat) : Int))])), (t0, .inl (cI, 24, .inl (fun j => iI ((tb a0 a1 j : Nat) : Int)))), (k0, .inl (cI, 12, .inl (fun j => iI ((K j : Nat) : Int)))), (p0, .inl (cI, 12, .inl (fun j => iI ((q j : Nat) : Int))))]) hP hD hPn hk
    have hD : va_D (LA s) ([(o0, .inr (0, [.long (pk a0), .long (pk a1), .long (pkn q w), .int (iI ((w : Nat) : Int))])), (u0, .inl (cJ, 1, .inr (.inl (g))))] ++ [(m0, .inr (1, [.int (iI 1), .ref t0, .ref k0, .ref p0, .int (iI ((w : Nat) : Int))])), (t0, .inl (cI, 24, .inl (fun j => iI ((tb a0 a1 j : Nat) : Int)))), (k0, .inl (cI, 12, .inl (fun j => iI ((K j : Nat) : Int)))), (p0, .inl (cI, 12, .inl (fun j => iI ((q j : Nat) : Int))))]) := va_D_same (w := ([(o0, .inr (0, [.long (pk a0), .long (pk a1), .long (pkn q w), .int (iI ((w : Nat) : Int))])), (u0, .inl (cJ, 1, .inr (.inl (g))))] ++ [(m0, .inr (1, [.int th, .ref t0, .ref k0, .ref p0, .int (iI ((w : Nat) : Int))])), (t0, .inl (cI, 24, .inl (fun j => iI ((tb a0 a1 j : Nat) : Int)))), (k0, .inl (cI, 12, .inl (fun j => iI ((K j : Nat) : Int)))), (p0, .inl (cI, 12, .inl (fun j => iI ((q j : Nat) : Int))))])) (Eq.trans (b := [o0, u0, m0, t0, k0, p0]) rfl rfl) hD
    refine va_forget hS.2.2 ?_
    have hS := va_S_nil hS
    refine lv_istore (lv' := [(6, .int (iI 0)), (5, .int (iI 1)), (0, .ref b), (1, .ref o0), (2, .ref m0), (3, .ref u0), (4, .int (iI ((5 * n : Nat) : Int)))]) hx hb dL_law_427 hl (by decide) rfl (fun ls hl => ?_)
    refine lv_aload_n hx hb dL_law_429 rfl (lv_at hl 4 rfl) ?_
    have hP2 : va_P (dC, dI) vwCl [(m0, .inr (1, [.int (iI 1), .ref t0, .ref k0, .ref p0, .int (iI ((w : Nat) : Int))])), (t0, .inl (cI, 24, .inl (fun j => iI ((tb a0 a1 j : Nat) : Int)))), (k0, .inl (cI, 12, .inl (fun j => iI ((K j : Nat) : Int)))), (p0, .inl (cI, 12, .inl (fun j => iI ((q j : Nat) : Int))))] H := va_P_r (w1 := [(o0, .inr (0, [.long (pk a0), .long (pk a1), .long (pkn q w), .int (iI ((w : Nat) : Int))])), (u0, .inl (cJ, 1, .inr (.inl (g))))]) (w2 := [(m0, .inr (1, [.int (iI 1), .ref t0, .ref k0, .ref p0, .int (iI ((w : Nat) : Int))])), (t0, .inl (cI, 24, .inl (fun j => iI ((tb a0 a1 j : Nat) : Int)))), (k0, .inl (cI, 12, .inl (fun j => iI ((K j : Nat) : Int)))), (p0, .inl (cI, 12, .inl (fun j => iI ((q j : Nat) : Int))))]) hP
    have hK2 := hK.sub (tys' := [(cI, .int)]) [1] rfl
    have hf9 : cells + 1 + 0 ≤ room_1.cells ∧ slots + 6 + 0 ≤ room_1.slots := ⟨by show cells + 1 + 0 ≤ 1036; omega, by show slots + 6 + 0 ≤ 8286; omega⟩
    refine rd_call (va_runV (As := []) (rest := []) ⟨hx, hb, hml, hown, hts⟩ (mX1_thrown l dC dI cI m0 t0 k0 p0 a0 a1 K q (iI 1) w hp0.1 hp1.1 hw hq) (cwV 0 hts gL_law_X1_thrown rfl rfl rfl hvX1_thrown ⟨(Nat.le_of_ble_eq_true rfl), (Nat.le_of_ble_eq_true rfl)⟩) (bW_pre (ci := 1) (q0 := 0) hK2 hP2 rfl rfl rfl) rfl rfl hl.1 rfl (lv_room (Nat.le_of_ble_eq_true rfl)) dL_law_430 hf9) ?_
    refine lv_iload hx hb dL_law_433 (lv_at hl 1 rfl) ?_
    refine ib_icmp_eq (tgt := 440) hx hb dL_law_435 (by decide) ⟨by omega, by omega⟩ ⟨by omega, by omega⟩ (fun c_435 => ?_) (fun c_435 => absurd c_435 (by decide))
    refine lv_iload hx hb dL_law_440 (lv_at hl 1 rfl) ?_
    refine ib_if_ne (tgt := 457) hx hb dL_law_442 (by decide) ⟨by omega, by omega⟩ (fun c_442 => ?_) (fun c_442 => absurd c_442 (by decide))
    refine lv_goto (tgt := 1833) hx hb dL_law_457 (by decide) ?_
    exact kk a0 a1 q K w (iI 1) (g) H ls ⟨hp0, hp1, hw, hq, hqd, hP, hD, hS⟩ (lv_sub hl [2, 3, 4, 5, 6] rfl)
  by_cases b2 : (z0 = 0 ∨ z0 = 1) ∧ ¬ (0 ≤ z1 ∧ z1 ≤ 11)
  · skip
    refine lv_aload_n hx hb dL_law_392 rfl (lv_at hl 1 rfl) ?_
    refine lv_aload_n hx hb dL_law_393 rfl (lv_at hl 0 rfl) ?_
    refine lv_iload hx hb dL_law_394 (lv_at hl 4 rfl) ?_
    refine ib_const hx hb dL_law_396 ?_
    refine ib_add (z := (((5 * n) + 1 : Nat) : Int)) hx hb dL_law_397 (by omega) ?_
    refine st_i (y := iI ((5 * n + 1 : Nat) : Int)) (congrArg iI (by omega)) ?_
    refine va_sld (b := b) (L := L) (xs := xs) hx hb hX hbl hbA hS (iI_vp (i := 5 * n + 1) (by omega) (by omega)) dL_law_398 ?_
    refine st_i (y := iI z0) ((congrArg xs (iI_cl (by omega))).trans e0) ?_
    refine lv_aload_n hx hb dL_law_399 rfl (lv_at hl 0 rfl) ?_
    refine lv_iload hx hb dL_law_400 (lv_at hl 4 rfl) ?_
    refine ib_const hx hb dL_law_402 ?_
    refine ib_add (z := (((5 * n) + 2 : Nat) : Int)) hx hb dL_law_403 (by omega) ?_
    refine st_i (y := iI ((5 * n + 2 : Nat) : Int)) (congrArg iI (by omega)) ?_
    refine va_sld (b := b) (L := L) (xs := xs) hx hb hX hbl hbA hS (iI_vp (i := 5 * n + 2) (by omega) (by omega)) dL_law_404 ?_
    refine st_i (y := iI z1) ((congrArg xs (iI_cl (by omega))).trans e1) ?_
    refine lv_aload_n hx hb dL_law_405 rfl (lv_at hl 3 rfl) ?_
    have hf9 : cells + 1 ≤ room_1.cells ∧ slots + 6 ≤ room_1.slots := ⟨by show cells + 1 ≤ 1036; omega, by show slots + 6 ≤ 8286; omega⟩
    have hP1 : va_P (dC, dI) vwCl [(o0, .inr (0, [.long (pk a0), .long (pk a1), .long (pkn q w), .int (iI ((w : Nat) : Int))]))] H := va_P_l (w1 := [(o0, .inr (0, [.long (pk a0), .long (pk a1), .long (pkn q w), .int (iI ((w : Nat) : Int))]))]) (w2 := [(u0, .inl (cJ, 1, .inr (.inl (g)))), (m0, .inr (1, [.int th, .ref t0, .ref k0, .ref p0, .int (iI ((w : Nat) : Int))])), (t0, .inl (cI, 24, .inl (fun j => iI ((tb a0 a1 j : Nat) : Int)))), (k0, .inl (cI, 12, .inl (fun j => iI ((K j : Nat) : Int)))), (p0, .inl (cI, 12, .inl (fun j => iI ((q j : Nat) : Int))))]) hP
    have hK1 := hK.sub (tys' := []) [] rfl
    refine rdK_call (vx_runSW (As := [.ref o0, .int (iI z0), .int (iI z1), .ref u0]) (rest := []) ⟨hx, hb, hml, hown, hts⟩ (mL_rotate_x2 l hfl dC dI o0 a0 a1 q w hp0 hp1 hw hq hqd u0 z0 z1 hz0 hz1 b2) (vx_cwSW 4 hts gL_law_L_rotate rfl rfl rfl hdL_rotate ⟨(Nat.le_of_ble_eq_true rfl), (Nat.le_of_ble_eq_true rfl)⟩) (bY_preS hK1 hP1 (hG0.at hS) hN) rfl rfl hl.1 rfl (lv_room (Nat.le_of_ble_eq_true rfl)) dL_law_406 hf9) (fun H hz hk => ?_)
    have hP : va_P (dC, dI) vwCl ([(o0, .inr (0, [.long (pk a0), .long (pk a1), .long (pkn q w), .int (iI ((w : Nat) : Int))])), (u0, .inl (cJ, 1, .inr (.inl (g))))] ++ [(m0, .inr (1, [.int th, .ref t0, .ref k0, .ref p0, .int (iI ((w : Nat) : Int))])), (t0, .inl (cI, 24, .inl (fun j => iI ((tb a0 a1 j : Nat) : Int)))), (k0, .inl (cI, 12, .inl (fun j => iI ((K j : Nat) : Int)))), (p0, .inl (cI, 12, .inl (fun j => iI ((q j : Nat) : Int))))]) H := va_P_new hP hk
    have hS := va_S_new hS hz hk
    refine lv_istore (lv' := [(5, .int (iI 2)), (0, .ref b), (1, .ref o0), (2, .ref m0), (3, .ref u0), (4, .int (iI ((5 * n : Nat) : Int)))]) hx hb dL_law_409 hl (by decide) rfl (fun ls hl => ?_)
    refine lv_aload_n hx hb dL_law_411 rfl (lv_at hl 3 rfl) ?_
    refine lv_aload_n hx hb dL_law_412 rfl (lv_at hl 1 rfl) ?_
    refine lv_iload hx hb dL_law_413 (lv_at hl 5 rfl) ?_
    refine ib_const hx hb dL_law_415 ?_
    refine ib_add (z := (((5 * n) + 1 : Nat) : Int)) hx hb dL_law_416 (by omega) ?_
    refine st_i (y := iI ((5 * n + 1 : Nat) : Int)) (congrArg iI (by omega)) ?_
    refine va_sld (b := b) (L := L) (xs := xs) hx hb hX hbl hbA hS (iI_vp (i := 5 * n + 1) (by omega) (by omega)) dL_law_417 ?_
    refine st_i (y := iI z0) ((congrArg xs (iI_cl (by omega))).trans e0) ?_
    refine lv_aload_n hx hb dL_law_418 rfl (lv_at hl 1 rfl) ?_
    refine lv_iload hx hb dL_law_419 (lv_at hl 5 rfl) ?_
    refine ib_const hx hb dL_law_421 ?_
    refine ib_add (z := (((5 * n) + 2 : Nat) : Int)) hx hb dL_law_422 (by omega) ?_
    refine st_i (y := iI ((5 * n + 2 : Nat) : Int)) (congrArg iI (by omega)) ?_
    refine va_sld (b := b) (L := L) (xs := xs) hx hb hX hbl hbA hS (iI_vp (i := 5 * n + 2) (by omega) (by omega)) dL_law_423 ?_
    refine st_i (y := iI z1) ((congrArg xs (iI_cl (by omega))).trans e1) ?_
    have hP2 : va_P (dC, dI) vwCl [(m0, .inr (1, [.int th, .ref t0, .ref k0, .ref p0, .int (iI ((w : Nat) : Int))])), (t0, .inl (cI, 24, .inl (fun j => iI ((tb a0 a1 j : Nat) : Int)))), (k0, .inl (cI, 12, .inl (fun j => iI ((K j : Nat) : Int)))), (p0, .inl (cI, 12, .inl (fun j => iI ((q j : Nat) : Int))))] H := va_P_r (w1 := [(o0, .inr (0, [.long (pk a0), .long (pk a1), .long (pkn q w), .int (iI ((w : Nat) : Int))])), (u0, .inl (cJ, 1, .inr (.inl (g))))]) (w2 := [(m0, .inr (1, [.int th, .ref t0, .ref k0, .ref p0, .int (iI ((w : Nat) : Int))])), (t0, .inl (cI, 24, .inl (fun j => iI ((tb a0 a1 j : Nat) : Int)))), (k0, .inl (cI, 12, .inl (fun j => iI ((K j : Nat) : Int)))), (p0, .inl (cI, 12, .inl (fun j => iI ((q j : Nat) : Int))))]) hP
    have hK2 := hK.sub (tys' := [(cI, .int)]) [1] rfl
    have hf9 : cells + 1 + 0 ≤ room_1.cells ∧ slots + 6 + 0 ≤ room_1.slots := ⟨by show cells + 1 + 0 ≤ 1036; omega, by show slots + 6 + 0 ≤ 8286; omega⟩
    have hD2 : va_D (LA s) [(m0, .inr (1, [.int th, .ref t0, .ref k0, .ref p0, .int (iI ((w : Nat) : Int))])), (t0, .inl (cI, 24, .inl (fun j => iI ((tb a0 a1 j : Nat) : Int)))), (k0, .inl (cI, 12, .inl (fun j => iI ((K j : Nat) : Int)))), (p0, .inl (cI, 12, .inl (fun j => iI ((q j : Nat) : Int))))] := va_D_r (w1 := [(o0, .inr (0, [.long (pk a0), .long (pk a1), .long (pkn q w), .int (iI ((w : Nat) : Int))])), (u0, .inl (cJ, 1, .inr (.inl (g))))]) (w2 := [(m0, .inr (1, [.int th, .ref t0, .ref k0, .ref p0, .int (iI ((w : Nat) : Int))])), (t0, .inl (cI, 24, .inl (fun j => iI ((tb a0 a1 j : Nat) : Int)))), (k0, .inl (cI, 12, .inl (fun j => iI ((K j : Nat) : Int)))), (p0, .inl (cI, 12, .inl (fun j => iI ((q j : Nat) : Int))))]) hD
    refine wr_call (va_runV (As := [.int (iI z0), .int (iI z1)]) (rest := []) ⟨hx, hb, hml, hown, hts⟩ (mX1_rotate_x2 l dC dI cI m0 t0 k0 p0 a0 a1 K q th w hp0.1 hp1.1 hw hq z0 z1 hz0 hz1 b2) (cwV 2 hts gL_law_X1_rotate rfl rfl rfl hvX1_rotate ⟨(Nat.le_of_ble_eq_true rfl), (Nat.le_of_ble_eq_true rfl)⟩) (bD_pre (ci := 1) (q0 := 0) hK2 hP2 hD2 rfl rfl rfl) rfl rfl hl.1 rfl (lv_room (Nat.le_of_ble_eq_true rfl)) dL_law_424 hf9) hS (fun q9 h => inW_A hD2 h) (fun H locs hPn hz hk hS => ?_)
    have hP : va_P (dC, dI) vwCl ([(o0, .inr (0, [.long (pk a0), .long (pk a1), .long (pkn q w), .int (iI ((w : Nat) : Int))])), (u0, .inl (cJ, 1, .inr (.inl (g))))] ++ [(m0, .inr (1, [.int (iI 2), .ref t0, .ref k0, .ref p0, .int (iI ((w : Nat) : Int))])), (t0, .inl (cI, 24, .inl (fun j => iI ((tb a0 a1 j : Nat) : Int)))), (k0, .inl (cI, 12, .inl (fun j => iI ((K j : Nat) : Int)))), (p0, .inl (cI, 12, .inl (fun j => iI ((q j : Nat) : Int))))]) H := wj_r (w1 := [(o0, .inr (0, [.long (pk a0), .long (pk a1), .long (pkn q w), .int (iI ((w : Nat) : Int))])), (u0, .inl (cJ, 1, .inr (.inl (g))))]) (w2 := [(m0, .inr (1, [.int th, .ref t0, .ref k0, .ref p0, .int (iI ((w : Nat) : Int))])), (t0, .inl (cI, 24, .inl (fun j => iI ((tb a0 a1 j : Nat) : Int)))), (k0, .inl (cI, 12, .inl (fun j => iI ((K j : Nat) : Int)))), (p0, .inl (cI, 12, .inl (fun j => iI ((q j : Nat) : Int))))]) (w2' := [(m0, .inr (1, [.int (iI 2), .ref t0, .ref k0, .ref p0, .int (iI ((w : Nat) : Int))])), (t0, .inl (cI, 24, .inl (fun j => iI ((tb a0 a1 j : Nat) : Int)))), (k0, .inl (cI, 12, .inl (fun j => iI ((K j : Nat) : Int)))), (p0, .inl (cI, 12, .inl (fun j => iI ((q j : Nat) : Int))))]) hP hD hPn hk
    have hD : va_D (LA s) ([(o0, .inr (0, [.long (pk a0), .long (pk a1), .long (pkn q w), .int (iI ((w : Nat) : Int))])), (u0, .inl (cJ, 1, .inr (.inl (g))))] ++ [(m0, .inr (1, [.int (iI 2), .ref t0, .ref k0, .ref p0, .int (iI ((w : Nat) : Int))])), (t0, .inl (cI, 24, .inl (fun j => iI ((tb a0 a1 j : Nat) : Int)))), (k0, .inl (cI, 12, .inl (fun j => iI ((K j : Nat) : Int)))), (p0, .inl (cI, 12, .inl (fun j => iI ((q j : Nat) : Int))))]) := va_D_same (w := ([(o0, .inr (0, [.long (pk a0), .long (pk a1), .long (pkn q w), .int (iI ((w : Nat) : Int))])), (u0, .inl (cJ, 1, .inr (.inl (g))))] ++ [(m0, .inr (1, [.int th, .ref t0, .ref k0, .ref p0, .int (iI ((w : Nat) : Int))])), (t0, .inl (cI, 24, .inl (fun j => iI ((tb a0 a1 j : Nat) : Int)))), (k0, .inl (cI, 12, .inl (fun j => iI ((K j : Nat) : Int)))), (p0, .inl (cI, 12, .inl (fun j => iI ((q j : Nat) : Int))))])) (Eq.trans (b := [o0, u0, m0, t0, k0, p0]) rfl rfl) hD
    refine va_forget hS.2.2 ?_
    have hS := va_S_nil hS
    refine lv_istore (lv' := [(6, .int (iI 0)), (5, .int (iI 2)), (0, .ref b), (1, .ref o0), (2, .ref m0), (3, .ref u0), (4, .int (iI ((5 * n : Nat) : Int)))]) hx hb dL_law_427 hl (by decide) rfl (fun ls hl => ?_)
    refine lv_aload_n hx hb dL_law_429 rfl (lv_at hl 4 rfl) ?_
    have hP2 : va_P (dC, dI) vwCl [(m0, .inr (1, [.int (iI 2), .ref t0, .ref k0, .ref p0, .int (iI ((w : Nat) : Int))])), (t0, .inl (cI, 24, .inl (fun j => iI ((tb a0 a1 j : Nat) : Int)))), (k0, .inl (cI, 12, .inl (fun j => iI ((K j : Nat) : Int)))), (p0, .inl (cI, 12, .inl (fun j => iI ((q j : Nat) : Int))))] H := va_P_r (w1 := [(o0, .inr (0, [.long (pk a0), .long (pk a1), .long (pkn q w), .int (iI ((w : Nat) : Int))])), (u0, .inl (cJ, 1, .inr (.inl (g))))]) (w2 := [(m0, .inr (1, [.int (iI 2), .ref t0, .ref k0, .ref p0, .int (iI ((w : Nat) : Int))])), (t0, .inl (cI, 24, .inl (fun j => iI ((tb a0 a1 j : Nat) : Int)))), (k0, .inl (cI, 12, .inl (fun j => iI ((K j : Nat) : Int)))), (p0, .inl (cI, 12, .inl (fun j => iI ((q j : Nat) : Int))))]) hP
    have hK2 := hK.sub (tys' := [(cI, .int)]) [1] rfl
    have hf9 : cells + 1 + 0 ≤ room_1.cells ∧ slots + 6 + 0 ≤ room_1.slots := ⟨by show cells + 1 + 0 ≤ 1036; omega, by show slots + 6 + 0 ≤ 8286; omega⟩
    refine rd_call (va_runV (As := []) (rest := []) ⟨hx, hb, hml, hown, hts⟩ (mX1_thrown l dC dI cI m0 t0 k0 p0 a0 a1 K q (iI 2) w hp0.1 hp1.1 hw hq) (cwV 0 hts gL_law_X1_thrown rfl rfl rfl hvX1_thrown ⟨(Nat.le_of_ble_eq_true rfl), (Nat.le_of_ble_eq_true rfl)⟩) (bW_pre (ci := 1) (q0 := 0) hK2 hP2 rfl rfl rfl) rfl rfl hl.1 rfl (lv_room (Nat.le_of_ble_eq_true rfl)) dL_law_430 hf9) ?_
    refine lv_iload hx hb dL_law_433 (lv_at hl 1 rfl) ?_
    refine ib_icmp_eq (tgt := 440) hx hb dL_law_435 (by decide) ⟨by omega, by omega⟩ ⟨by omega, by omega⟩ (fun c_435 => ?_) (fun c_435 => absurd c_435 (by decide))
    refine lv_iload hx hb dL_law_440 (lv_at hl 1 rfl) ?_
    refine ib_if_ne (tgt := 457) hx hb dL_law_442 (by decide) ⟨by omega, by omega⟩ (fun c_442 => ?_) (fun c_442 => absurd c_442 (by decide))
    refine lv_goto (tgt := 1833) hx hb dL_law_457 (by decide) ?_
    exact kk a0 a1 q K w (iI 2) (g) H ls ⟨hp0, hp1, hw, hq, hqd, hP, hD, hS⟩ (lv_sub hl [2, 3, 4, 5, 6] rfl)
  obtain ⟨r, hn0, rfl⟩ := nat_of (z := z0) (k := 4095) (by omega)
  obtain ⟨b9, hn1, rfl⟩ := nat_of (z := z1) (k := 4095) (by omega)
  have hF : Pm (rotF (rw_ r a0 a1) b9) := rotF_Pm b9 (rw_Pm hp0 hp1 r)
  refine lv_aload_n hx hb dL_law_392 rfl (lv_at hl 1 rfl) ?_
  refine lv_aload_n hx hb dL_law_393 rfl (lv_at hl 0 rfl) ?_
  refine lv_iload hx hb dL_law_394 (lv_at hl 4 rfl) ?_
  refine ib_const hx hb dL_law_396 ?_
  refine ib_add (z := (((5 * n) + 1 : Nat) : Int)) hx hb dL_law_397 (by omega) ?_
  refine st_i (y := iI ((5 * n + 1 : Nat) : Int)) (congrArg iI (by omega)) ?_
  refine va_sld (b := b) (L := L) (xs := xs) hx hb hX hbl hbA hS (iI_vp (i := 5 * n + 1) (by omega) (by omega)) dL_law_398 ?_
  refine st_i (y := iI ((r : Nat) : Int)) ((congrArg xs (iI_cl (by omega))).trans e0) ?_
  refine lv_aload_n hx hb dL_law_399 rfl (lv_at hl 0 rfl) ?_
  refine lv_iload hx hb dL_law_400 (lv_at hl 4 rfl) ?_
  refine ib_const hx hb dL_law_402 ?_
  refine ib_add (z := (((5 * n) + 2 : Nat) : Int)) hx hb dL_law_403 (by omega) ?_
  refine st_i (y := iI ((5 * n + 2 : Nat) : Int)) (congrArg iI (by omega)) ?_
  refine va_sld (b := b) (L := L) (xs := xs) hx hb hX hbl hbA hS (iI_vp (i := 5 * n + 2) (by omega) (by omega)) dL_law_404 ?_
  refine st_i (y := iI ((b9 : Nat) : Int)) ((congrArg xs (iI_cl (by omega))).trans e1) ?_
  refine lv_aload_n hx hb dL_law_405 rfl (lv_at hl 3 rfl) ?_
  have hf9 : cells + 0 ≤ room_1.cells ∧ slots + 0 ≤ room_1.slots := ⟨by show cells + 0 ≤ 1036; omega, by show slots + 0 ≤ 8286; omega⟩
  have hP1 : va_P (dC, dI) vwCl [(o0, .inr (0, [.long (pk a0), .long (pk a1), .long (pkn q w), .int (iI ((w : Nat) : Int))])), (u0, .inl (cJ, 1, .inr (.inl (g))))] H := va_P_l (w1 := [(o0, .inr (0, [.long (pk a0), .long (pk a1), .long (pkn q w), .int (iI ((w : Nat) : Int))])), (u0, .inl (cJ, 1, .inr (.inl (g))))]) (w2 := [(m0, .inr (1, [.int th, .ref t0, .ref k0, .ref p0, .int (iI ((w : Nat) : Int))])), (t0, .inl (cI, 24, .inl (fun j => iI ((tb a0 a1 j : Nat) : Int)))), (k0, .inl (cI, 12, .inl (fun j => iI ((K j : Nat) : Int)))), (p0, .inl (cI, 12, .inl (fun j => iI ((q j : Nat) : Int))))]) hP
  have hD1 : va_D (LA s) [(o0, .inr (0, [.long (pk a0), .long (pk a1), .long (pkn q w), .int (iI ((w : Nat) : Int))])), (u0, .inl (cJ, 1, .inr (.inl (g))))] := va_D_l (w1 := [(o0, .inr (0, [.long (pk a0), .long (pk a1), .long (pkn q w), .int (iI ((w : Nat) : Int))])), (u0, .inl (cJ, 1, .inr (.inl (g))))]) (w2 := [(m0, .inr (1, [.int th, .ref t0, .ref k0, .ref p0, .int (iI ((w : Nat) : Int))])), (t0, .inl (cI, 24, .inl (fun j => iI ((tb a0 a1 j : Nat) : Int)))), (k0, .inl (cI, 12, .inl (fun j => iI ((K j : Nat) : Int)))), (p0, .inl (cI, 12, .inl (fun j => iI ((q j : Nat) : Int))))]) hD
  have hK1 := hK.sub (tys' := [(cJ, .long)]) [0] rfl
  refine wr_call (vx_runSW (As := [.ref o0, .int (iI ((r : Nat) : Int)), .int (iI ((b9 : Nat) : Int)), .ref u0]) (rest := []) ⟨hx, hb, hml, hown, hts⟩ (mL_rotate_ok l dC dI cJ o0 u0 a0 a1 q w hp0 hp1 hw hq hqd g r b9 (by omega) (by omega)) (vx_cwSW 4 hts gL_law_L_rotate rfl rfl rfl hdL_rotate ⟨(Nat.le_of_ble_eq_true rfl), (Nat.le_of_ble_eq_true rfl)⟩) (bD_preS hK1 hP1 hD1) rfl rfl hl.1 rfl (lv_room (Nat.le_of_ble_eq_true rfl)) dL_law_406 hf9) hS (fun q9 h => inW_A hD1 h) (fun H locs hPn hz hk hS => ?_)
  have hP : va_P (dC, dI) vwCl ([(o0, .inr (0, [.long (pk (sr0 r (rotF (rw_ r a0 a1) b9) a0)), .long (pk (sr1 r (rotF (rw_ r a0 a1) b9) a1)), .long (pkn q w), .int (iI ((w : Nat) : Int))])), (u0, .inl (cJ, 1, .inr (.inl (fun _ => (iI ((rotF (rw_ r a0 a1) b9 0 : Nat) : Int)).toInt64))))] ++ [(m0, .inr (1, [.int th, .ref t0, .ref k0, .ref p0, .int (iI ((w : Nat) : Int))])), (t0, .inl (cI, 24, .inl (fun j => iI ((tb a0 a1 j : Nat) : Int)))), (k0, .inl (cI, 12, .inl (fun j => iI ((K j : Nat) : Int)))), (p0, .inl (cI, 12, .inl (fun j => iI ((q j : Nat) : Int))))]) H := wj_l (w1 := [(o0, .inr (0, [.long (pk a0), .long (pk a1), .long (pkn q w), .int (iI ((w : Nat) : Int))])), (u0, .inl (cJ, 1, .inr (.inl (g))))]) (w2 := [(m0, .inr (1, [.int th, .ref t0, .ref k0, .ref p0, .int (iI ((w : Nat) : Int))])), (t0, .inl (cI, 24, .inl (fun j => iI ((tb a0 a1 j : Nat) : Int)))), (k0, .inl (cI, 12, .inl (fun j => iI ((K j : Nat) : Int)))), (p0, .inl (cI, 12, .inl (fun j => iI ((q j : Nat) : Int))))]) (w1' := [(o0, .inr (0, [.long (pk (sr0 r (rotF (rw_ r a0 a1) b9) a0)), .long (pk (sr1 r (rotF (rw_ r a0 a1) b9) a1)), .long (pkn q w), .int (iI ((w : Nat) : Int))])), (u0, .inl (cJ, 1, .inr (.inl (fun _ => (iI ((rotF (rw_ r a0 a1) b9 0 : Nat) : Int)).toInt64))))]) hP hD hPn hk
  have hD : va_D (LA s) ([(o0, .inr (0, [.long (pk (sr0 r (rotF (rw_ r a0 a1) b9) a0)), .long (pk (sr1 r (rotF (rw_ r a0 a1) b9) a1)), .long (pkn q w), .int (iI ((w : Nat) : Int))])), (u0, .inl (cJ, 1, .inr (.inl (fun _ => (iI ((rotF (rw_ r a0 a1) b9 0 : Nat) : Int)).toInt64))))] ++ [(m0, .inr (1, [.int th, .ref t0, .ref k0, .ref p0, .int (iI ((w : Nat) : Int))])), (t0, .inl (cI, 24, .inl (fun j => iI ((tb a0 a1 j : Nat) : Int)))), (k0, .inl (cI, 12, .inl (fun j => iI ((K j : Nat) : Int)))), (p0, .inl (cI, 12, .inl (fun j => iI ((q j : Nat) : Int))))]) := va_D_same (w := ([(o0, .inr (0, [.long (pk a0), .long (pk a1), .long (pkn q w), .int (iI ((w : Nat) : Int))])), (u0, .inl (cJ, 1, .inr (.inl (g))))] ++ [(m0, .inr (1, [.int th, .ref t0, .ref k0, .ref p0, .int (iI ((w : Nat) : Int))])), (t0, .inl (cI, 24, .inl (fun j => iI ((tb a0 a1 j : Nat) : Int)))), (k0, .inl (cI, 12, .inl (fun j => iI ((K j : Nat) : Int)))), (p0, .inl (cI, 12, .inl (fun j => iI ((q j : Nat) : Int))))])) (Eq.trans (b := [o0, u0, m0, t0, k0, p0]) rfl rfl) hD
  refine va_forget hS.2.2 ?_
  have hS := va_S_nil hS
  refine W.widen (k := cells + 1) (n := slots + 6) (by omega) (by omega) ?_
  refine lv_istore (lv' := [(5, .int (iI 0)), (0, .ref b), (1, .ref o0), (2, .ref m0), (3, .ref u0), (4, .int (iI ((5 * n : Nat) : Int)))]) hx hb dL_law_409 hl (by decide) rfl (fun ls hl => ?_)
  refine lv_aload_n hx hb dL_law_411 rfl (lv_at hl 3 rfl) ?_
  refine lv_aload_n hx hb dL_law_412 rfl (lv_at hl 1 rfl) ?_
  refine lv_iload hx hb dL_law_413 (lv_at hl 5 rfl) ?_
  refine ib_const hx hb dL_law_415 ?_
  refine ib_add (z := (((5 * n) + 1 : Nat) : Int)) hx hb dL_law_416 (by omega) ?_
  refine st_i (y := iI ((5 * n + 1 : Nat) : Int)) (congrArg iI (by omega)) ?_
  refine va_sld (b := b) (L := L) (xs := xs) hx hb hX hbl hbA hS (iI_vp (i := 5 * n + 1) (by omega) (by omega)) dL_law_417 ?_
  refine st_i (y := iI ((r : Nat) : Int)) ((congrArg xs (iI_cl (by omega))).trans e0) ?_
  refine lv_aload_n hx hb dL_law_418 rfl (lv_at hl 1 rfl) ?_
  refine lv_iload hx hb dL_law_419 (lv_at hl 5 rfl) ?_
  refine ib_const hx hb dL_law_421 ?_
  refine ib_add (z := (((5 * n) + 2 : Nat) : Int)) hx hb dL_law_422 (by omega) ?_
  refine st_i (y := iI ((5 * n + 2 : Nat) : Int)) (congrArg iI (by omega)) ?_
  refine va_sld (b := b) (L := L) (xs := xs) hx hb hX hbl hbA hS (iI_vp (i := 5 * n + 2) (by omega) (by omega)) dL_law_423 ?_
  refine st_i (y := iI ((b9 : Nat) : Int)) ((congrArg xs (iI_cl (by omega))).trans e1) ?_
  have hP2 : va_P (dC, dI) vwCl [(m0, .inr (1, [.int th, .ref t0, .ref k0, .ref p0, .int (iI ((w : Nat) : Int))])), (t0, .inl (cI, 24, .inl (fun j => iI ((tb a0 a1 j : Nat) : Int)))), (k0, .inl (cI, 12, .inl (fun j => iI ((K j : Nat) : Int)))), (p0, .inl (cI, 12, .inl (fun j => iI ((q j : Nat) : Int))))] H := va_P_r (w1 := [(o0, .inr (0, [.long (pk (sr0 r (rotF (rw_ r a0 a1) b9) a0)), .long (pk (sr1 r (rotF (rw_ r a0 a1) b9) a1)), .long (pkn q w), .int (iI ((w : Nat) : Int))])), (u0, .inl (cJ, 1, .inr (.inl (fun _ => (iI ((rotF (rw_ r a0 a1) b9 0 : Nat) : Int)).toInt64))))]) (w2 := [(m0, .inr (1, [.int th, .ref t0, .ref k0, .ref p0, .int (iI ((w : Nat) : Int))])), (t0, .inl (cI, 24, .inl (fun j => iI ((tb a0 a1 j : Nat) : Int)))), (k0, .inl (cI, 12, .inl (fun j => iI ((K j : Nat) : Int)))), (p0, .inl (cI, 12, .inl (fun j => iI ((q j : Nat) : Int))))]) hP
  have hK2 := hK.sub (tys' := [(cI, .int)]) [1] rfl
  have hf9 : cells + 1 + 0 ≤ room_1.cells ∧ slots + 6 + 0 ≤ room_1.slots := ⟨by show cells + 1 + 0 ≤ 1036; omega, by show slots + 6 + 0 ≤ 8286; omega⟩
  have hD2 : va_D (LA s) [(m0, .inr (1, [.int th, .ref t0, .ref k0, .ref p0, .int (iI ((w : Nat) : Int))])), (t0, .inl (cI, 24, .inl (fun j => iI ((tb a0 a1 j : Nat) : Int)))), (k0, .inl (cI, 12, .inl (fun j => iI ((K j : Nat) : Int)))), (p0, .inl (cI, 12, .inl (fun j => iI ((q j : Nat) : Int))))] := va_D_r (w1 := [(o0, .inr (0, [.long (pk (sr0 r (rotF (rw_ r a0 a1) b9) a0)), .long (pk (sr1 r (rotF (rw_ r a0 a1) b9) a1)), .long (pkn q w), .int (iI ((w : Nat) : Int))])), (u0, .inl (cJ, 1, .inr (.inl (fun _ => (iI ((rotF (rw_ r a0 a1) b9 0 : Nat) : Int)).toInt64))))]) (w2 := [(m0, .inr (1, [.int th, .ref t0, .ref k0, .ref p0, .int (iI ((w : Nat) : Int))])), (t0, .inl (cI, 24, .inl (fun j => iI ((tb a0 a1 j : Nat) : Int)))), (k0, .inl (cI, 12, .inl (fun j => iI ((K j : Nat) : Int)))), (p0, .inl (cI, 12, .inl (fun j => iI ((q j : Nat) : Int))))]) hD
  refine wr_call (va_runV (As := [.int (iI ((r : Nat) : Int)), .int (iI ((b9 : Nat) : Int))]) (rest := []) ⟨hx, hb, hml, hown, hts⟩ (mX1_rotate_ok l dC dI cI m0 t0 k0 p0 a0 a1 K q th w hp0.1 hp1.1 hw hq r b9 (by omega) (by omega)) (cwV 2 hts gL_law_X1_rotate rfl rfl rfl hvX1_rotate ⟨(Nat.le_of_ble_eq_true rfl), (Nat.le_of_ble_eq_true rfl)⟩) (bD_pre (ci := 1) (q0 := 0) hK2 hP2 hD2 rfl rfl rfl) rfl rfl hl.1 rfl (lv_room (Nat.le_of_ble_eq_true rfl)) dL_law_424 hf9) hS (fun q9 h => inW_A hD2 h) (fun H locs hPn hz hk hS => ?_)
  have hP : va_P (dC, dI) vwCl ([(o0, .inr (0, [.long (pk (sr0 r (rotF (rw_ r a0 a1) b9) a0)), .long (pk (sr1 r (rotF (rw_ r a0 a1) b9) a1)), .long (pkn q w), .int (iI ((w : Nat) : Int))])), (u0, .inl (cJ, 1, .inr (.inl (fun _ => (iI ((rotF (rw_ r a0 a1) b9 0 : Nat) : Int)).toInt64))))] ++ [(m0, .inr (1, [.int (iI 0), .ref t0, .ref k0, .ref p0, .int (iI ((w : Nat) : Int))])), (t0, .inl (cI, 24, .inl (fun j => iI ((tb (sr0 r (rotF (rw_ r a0 a1) b9) a0) (sr1 r (rotF (rw_ r a0 a1) b9) a1) j : Nat) : Int)))), (k0, .inl (cI, 12, .inl (fun j => iI (((mx (rotF (rw_ r a0 a1) b9) K 12) j : Nat) : Int)))), (p0, .inl (cI, 12, .inl (fun j => iI ((q j : Nat) : Int))))]) H := wj_r (w1 := [(o0, .inr (0, [.long (pk (sr0 r (rotF (rw_ r a0 a1) b9) a0)), .long (pk (sr1 r (rotF (rw_ r a0 a1) b9) a1)), .long (pkn q w), .int (iI ((w : Nat) : Int))])), (u0, .inl (cJ, 1, .inr (.inl (fun _ => (iI ((rotF (rw_ r a0 a1) b9 0 : Nat) : Int)).toInt64))))]) (w2 := [(m0, .inr (1, [.int th, .ref t0, .ref k0, .ref p0, .int (iI ((w : Nat) : Int))])), (t0, .inl (cI, 24, .inl (fun j => iI ((tb a0 a1 j : Nat) : Int)))), (k0, .inl (cI, 12, .inl (fun j => iI ((K j : Nat) : Int)))), (p0, .inl (cI, 12, .inl (fun j => iI ((q j : Nat) : Int))))]) (w2' := [(m0, .inr (1, [.int (iI 0), .ref t0, .ref k0, .ref p0, .int (iI ((w : Nat) : Int))])), (t0, .inl (cI, 24, .inl (fun j => iI ((tb (sr0 r (rotF (rw_ r a0 a1) b9) a0) (sr1 r (rotF (rw_ r a0 a1) b9) a1) j : Nat) : Int)))), (k0, .inl (cI, 12, .inl (fun j => iI (((mx (rotF (rw_ r a0 a1) b9) K 12) j : Nat) : Int)))), (p0, .inl (cI, 12, .inl (fun j => iI ((q j : Nat) : Int))))]) hP hD hPn hk
  have hD : va_D (LA s) ([(o0, .inr (0, [.long (pk (sr0 r (rotF (rw_ r a0 a1) b9) a0)), .long (pk (sr1 r (rotF (rw_ r a0 a1) b9) a1)), .long (pkn q w), .int (iI ((w : Nat) : Int))])), (u0, .inl (cJ, 1, .inr (.inl (fun _ => (iI ((rotF (rw_ r a0 a1) b9 0 : Nat) : Int)).toInt64))))] ++ [(m0, .inr (1, [.int (iI 0), .ref t0, .ref k0, .ref p0, .int (iI ((w : Nat) : Int))])), (t0, .inl (cI, 24, .inl (fun j => iI ((tb (sr0 r (rotF (rw_ r a0 a1) b9) a0) (sr1 r (rotF (rw_ r a0 a1) b9) a1) j : Nat) : Int)))), (k0, .inl (cI, 12, .inl (fun j => iI (((mx (rotF (rw_ r a0 a1) b9) K 12) j : Nat) : Int)))), (p0, .inl (cI, 12, .inl (fun j => iI ((q j : Nat) : Int))))]) := va_D_same (w := ([(o0, .inr (0, [.long (pk (sr0 r (rotF (rw_ r a0 a1) b9) a0)), .long (pk (sr1 r (rotF (rw_ r a0 a1) b9) a1)), .long (pkn q w), .int (iI ((w : Nat) : Int))])), (u0, .inl (cJ, 1, .inr (.inl (fun _ => (iI ((rotF (rw_ r a0 a1) b9 0 : Nat) : Int)).toInt64))))] ++ [(m0, .inr (1, [.int th, .ref t0, .ref k0, .ref p0, .int (iI ((w : Nat) : Int))])), (t0, .inl (cI, 24, .inl (fun j => iI ((tb a0 a1 j : Nat) : Int)))), (k0, .inl (cI, 12, .inl (fun j => iI ((K j : Nat) : Int)))), (p0, .inl (cI, 12, .inl (fun j => iI ((q j : Nat) : Int))))])) (Eq.trans (b := [o0, u0, m0, t0, k0, p0]) rfl rfl) hD
  refine va_forget hS.2.2 ?_
  have hS := va_S_nil hS
  refine lv_istore (lv' := [(6, .int (iI ((rotF (rw_ r a0 a1) b9 0 : Nat) : Int))), (5, .int (iI 0)), (0, .ref b), (1, .ref o0), (2, .ref m0), (3, .ref u0), (4, .int (iI ((5 * n : Nat) : Int)))]) hx hb dL_law_427 hl (by decide) rfl (fun ls hl => ?_)
  refine lv_aload_n hx hb dL_law_429 rfl (lv_at hl 4 rfl) ?_
  have hP2 : va_P (dC, dI) vwCl [(m0, .inr (1, [.int (iI 0), .ref t0, .ref k0, .ref p0, .int (iI ((w : Nat) : Int))])), (t0, .inl (cI, 24, .inl (fun j => iI ((tb (sr0 r (rotF (rw_ r a0 a1) b9) a0) (sr1 r (rotF (rw_ r a0 a1) b9) a1) j : Nat) : Int)))), (k0, .inl (cI, 12, .inl (fun j => iI (((mx (rotF (rw_ r a0 a1) b9) K 12) j : Nat) : Int)))), (p0, .inl (cI, 12, .inl (fun j => iI ((q j : Nat) : Int))))] H := va_P_r (w1 := [(o0, .inr (0, [.long (pk (sr0 r (rotF (rw_ r a0 a1) b9) a0)), .long (pk (sr1 r (rotF (rw_ r a0 a1) b9) a1)), .long (pkn q w), .int (iI ((w : Nat) : Int))])), (u0, .inl (cJ, 1, .inr (.inl (fun _ => (iI ((rotF (rw_ r a0 a1) b9 0 : Nat) : Int)).toInt64))))]) (w2 := [(m0, .inr (1, [.int (iI 0), .ref t0, .ref k0, .ref p0, .int (iI ((w : Nat) : Int))])), (t0, .inl (cI, 24, .inl (fun j => iI ((tb (sr0 r (rotF (rw_ r a0 a1) b9) a0) (sr1 r (rotF (rw_ r a0 a1) b9) a1) j : Nat) : Int)))), (k0, .inl (cI, 12, .inl (fun j => iI (((mx (rotF (rw_ r a0 a1) b9) K 12) j : Nat) : Int)))), (p0, .inl (cI, 12, .inl (fun j => iI ((q j : Nat) : Int))))]) hP
  have hK2 := hK.sub (tys' := [(cI, .int)]) [1] rfl
  have hf9 : cells + 1 + 0 ≤ room_1.cells ∧ slots + 6 + 0 ≤ room_1.slots := ⟨by show cells + 1 + 0 ≤ 1036; omega, by show slots + 6 + 0 ≤ 8286; omega⟩
  refine rd_call (va_runV (As := []) (rest := []) ⟨hx, hb, hml, hown, hts⟩ (mX1_thrown l dC dI cI m0 t0 k0 p0 (sr0 r (rotF (rw_ r a0 a1) b9) a0) (sr1 r (rotF (rw_ r a0 a1) b9) a1) (mx (rotF (rw_ r a0 a1) b9) K 12) q (iI 0) w (sr0_Pm r hF hp0).1 (sr1_Pm r hF hp1).1 hw hq) (cwV 0 hts gL_law_X1_thrown rfl rfl rfl hvX1_thrown ⟨(Nat.le_of_ble_eq_true rfl), (Nat.le_of_ble_eq_true rfl)⟩) (bW_pre (ci := 1) (q0 := 0) hK2 hP2 rfl rfl rfl) rfl rfl hl.1 rfl (lv_room (Nat.le_of_ble_eq_true rfl)) dL_law_430 hf9) ?_
  refine lv_iload hx hb dL_law_433 (lv_at hl 1 rfl) ?_
  refine ib_icmp_eq (tgt := 440) hx hb dL_law_435 (by decide) ⟨by omega, by omega⟩ ⟨by omega, by omega⟩ (fun c_435 => ?_) (fun c_435 => absurd c_435 (by decide))
  refine lv_iload hx hb dL_law_440 (lv_at hl 1 rfl) ?_
  refine ib_if_ne (tgt := 457) hx hb dL_law_442 (by decide) ⟨by omega, by omega⟩ (fun c_442 => absurd c_442 (by decide)) (fun c_442 => ?_)
  refine lv_aload_n hx hb dL_law_445 rfl (lv_at hl 5 rfl) ?_
  refine ib_const hx hb dL_law_446 ?_
  refine va_lald hx hb hK hP 1 0 rfl rfl vp0 dL_law_447 ?_
  refine st_l (y := (iI ((rotF (rw_ r a0 a1) b9 0 : Nat) : Int)).toInt64) rfl ?_
  refine lv_iload hx hb dL_law_448 (lv_at hl 0 rfl) ?_
  refine lv_i2l hx hb dL_law_450 rfl ?_
  refine W.lcmp hx hb dL_law_451 ?_
  refine bl_eq (tgt := 457) hx hb dL_law_452 (by decide) (fun _ => ?_) (fun h => absurd rfl h)
  refine lv_goto (tgt := 1833) hx hb dL_law_457 (by decide) ?_
  exact kk (sr0 r (rotF (rw_ r a0 a1) b9) a0) (sr1 r (rotF (rw_ r a0 a1) b9) a1) q (mx (rotF (rw_ r a0 a1) b9) K 12) w (iI 0) (fun _ => (iI ((rotF (rw_ r a0 a1) b9 0 : Nat) : Int)).toInt64) H ls ⟨(sr0_Pm r hF hp0), (sr1_Pm r hF hp1), hw, hq, hqd, hP, hD, hS⟩ (lv_sub hl [2, 3, 4, 5, 6] rfl)

set_option maxHeartbeats 4000000 in
set_option maxRecDepth 100000 in
theorem law_c4 {p : Program} {l : Launch} {e : Env} {s : State} {m : MethodId} {below : List Frame} {meth : Method} {c : Code} {Q : State → Prop} {dC : Nat → ClassId} {dI : Nat → Nat → Nat} {cI cJ : ClassId} {b L : Nat} {xs : Nat → Int32} (C : LC p l s m meth c (dC, dI) cI cJ b L xs) {o0 u0 m0 t0 k0 p0 : Nat} {a0 a1 q K : Nat → Nat} {w : Nat} {th : Int32} {g : Nat → Int64} {H : Heap} (hI : LI s (dC, dI) cI cJ o0 u0 m0 t0 k0 p0 a0 a1 q K w th g H) {n cells slots : Nat} (hc1 : cells + 1 ≤ 1036) (hc2 : slots + 6 ≤ 8286) (hn : 5 * n + 5 ≤ L) (hL : L ≤ 2560) {ls : Array Slot} (hl : lv_has ls 8 [(0, .ref b), (1, .ref o0), (2, .ref m0), (3, .ref u0), (4, .int (iI ((5 * n : Nat) : Int)))])
    (kk : ∀ (a0 a1 q K : Nat → Nat) (w : Nat) (th : Int32) (g : Nat → Int64) (H : Heap) (ls : Array Slot), LI s (dC, dI) cI cJ o0 u0 m0 t0 k0 p0 a0 a1 q K w th g H → lv_has ls 8 [(0, .ref b), (1, .ref o0), (2, .ref m0), (3, .ref u0), (4, .int (iI ((5 * n : Nat) : Int)))] → W p l e room_1 s m #[Value.ref b] below meth c H [] (cells + 1) (slots + 6) Q (F0 m 1833 ls [])) : W p l e room_1 s m #[Value.ref b] below meth c H [] cells slots Q (F0 m 460 ls []) := by
  obtain ⟨hx, hb, hml, hown, hts, hK, hG0, hN, hX, hbl, hfl⟩ := C
  obtain ⟨hp0, hp1, hw, hq, hqd, hP, hD, hS⟩ := hI
  have hbA : ¬ LA s b := Nat.not_le.mpr hbl
  obtain ⟨z0, hz0, e0⟩ := ex_i (xs (5 * n + 1))
  obtain ⟨z1, hz1, e1⟩ := ex_i (xs (5 * n + 2))
  have hza0 := hz0.1
  have hzb0 := hz0.2
  have hza1 := hz1.1
  have hzb1 := hz1.2
  by_cases b1 : ¬ ((z0 = 0 ∨ z0 = 1) ∧ (0 ≤ z1 ∧ z1 ≤ 11))
  · skip
    refine lv_aload_n hx hb dL_law_460 rfl (lv_at hl 1 rfl) ?_
    refine lv_aload_n hx hb dL_law_461 rfl (lv_at hl 0 rfl) ?_
    refine lv_iload hx hb dL_law_462 (lv_at hl 4 rfl) ?_
    refine ib_const hx hb dL_law_464 ?_
    refine ib_add (z := (((5 * n) + 1 : Nat) : Int)) hx hb dL_law_465 (by omega) ?_
    refine st_i (y := iI ((5 * n + 1 : Nat) : Int)) (congrArg iI (by omega)) ?_
    refine va_sld (b := b) (L := L) (xs := xs) hx hb hX hbl hbA hS (iI_vp (i := 5 * n + 1) (by omega) (by omega)) dL_law_466 ?_
    refine st_i (y := iI z0) ((congrArg xs (iI_cl (by omega))).trans e0) ?_
    refine lv_aload_n hx hb dL_law_467 rfl (lv_at hl 0 rfl) ?_
    refine lv_iload hx hb dL_law_468 (lv_at hl 4 rfl) ?_
    refine ib_const hx hb dL_law_470 ?_
    refine ib_add (z := (((5 * n) + 2 : Nat) : Int)) hx hb dL_law_471 (by omega) ?_
    refine st_i (y := iI ((5 * n + 2 : Nat) : Int)) (congrArg iI (by omega)) ?_
    refine va_sld (b := b) (L := L) (xs := xs) hx hb hX hbl hbA hS (iI_vp (i := 5 * n + 2) (by omega) (by omega)) dL_law_472 ?_
    refine st_i (y := iI z1) ((congrArg xs (iI_cl (by omega))).trans e1) ?_
    refine lv_aload_n hx hb dL_law_473 rfl (lv_at hl 3 rfl) ?_
    have hf9 : cells + 1 ≤ room_1.cells ∧ slots + 6 ≤ room_1.slots := ⟨by show cells + 1 ≤ 1036; omega, by show slots + 6 ≤ 8286; omega⟩
    have hP1 : va_P (dC, dI) vwCl [(o0, .inr (0, [.long (pk a0), .long (pk a1), .long (pkn q w), .int (iI ((w : Nat) : Int))]))] H := va_P_l (w1 := [(o0, .inr (0, [.long (pk a0), .long (pk a1), .long (pkn q w), .int (iI ((w : Nat) : Int))]))]) (w2 := [(u0, .inl (cJ, 1, .inr (.inl (g)))), (m0, .inr (1, [.int th, .ref t0, .ref k0, .ref p0, .int (iI ((w : Nat) : Int))])), (t0, .inl (cI, 24, .inl (fun j => iI ((tb a0 a1 j : Nat) : Int)))), (k0, .inl (cI, 12, .inl (fun j => iI ((K j : Nat) : Int)))), (p0, .inl (cI, 12, .inl (fun j => iI ((q j : Nat) : Int))))]) hP
    have hK1 := hK.sub (tys' := []) [] rfl
    refine rdK_call (vx_runSW (As := [.ref o0, .int (iI z0), .int (iI z1), .ref u0]) (rest := []) ⟨hx, hb, hml, hown, hts⟩ (mL_tone_x1 l hfl dC dI o0 a0 a1 q w hp0 hp1 hw hq hqd u0 z0 z1 hz0 hz1 b1) (vx_cwSW 4 hts gL_law_L_tone rfl rfl rfl hdL_tone ⟨(Nat.le_of_ble_eq_true rfl), (Nat.le_of_ble_eq_true rfl)⟩) (bY_preS hK1 hP1 (hG0.at hS) hN) rfl rfl hl.1 rfl (lv_room (Nat.le_of_ble_eq_true rfl)) dL_law_474 hf9) (fun H hz hk => ?_)
    have hP : va_P (dC, dI) vwCl ([(o0, .inr (0, [.long (pk a0), .long (pk a1), .long (pkn q w), .int (iI ((w : Nat) : Int))])), (u0, .inl (cJ, 1, .inr (.inl (g))))] ++ [(m0, .inr (1, [.int th, .ref t0, .ref k0, .ref p0, .int (iI ((w : Nat) : Int))])), (t0, .inl (cI, 24, .inl (fun j => iI ((tb a0 a1 j : Nat) : Int)))), (k0, .inl (cI, 12, .inl (fun j => iI ((K j : Nat) : Int)))), (p0, .inl (cI, 12, .inl (fun j => iI ((q j : Nat) : Int))))]) H := va_P_new hP hk
    have hS := va_S_new hS hz hk
    refine lv_istore (lv' := [(5, .int (iI 1)), (0, .ref b), (1, .ref o0), (2, .ref m0), (3, .ref u0), (4, .int (iI ((5 * n : Nat) : Int)))]) hx hb dL_law_477 hl (by decide) rfl (fun ls hl => ?_)
    refine lv_aload_n hx hb dL_law_479 rfl (lv_at hl 3 rfl) ?_
    refine lv_aload_n hx hb dL_law_480 rfl (lv_at hl 1 rfl) ?_
    refine lv_iload hx hb dL_law_481 (lv_at hl 5 rfl) ?_
    refine ib_const hx hb dL_law_483 ?_
    refine ib_add (z := (((5 * n) + 1 : Nat) : Int)) hx hb dL_law_484 (by omega) ?_
    refine st_i (y := iI ((5 * n + 1 : Nat) : Int)) (congrArg iI (by omega)) ?_
    refine va_sld (b := b) (L := L) (xs := xs) hx hb hX hbl hbA hS (iI_vp (i := 5 * n + 1) (by omega) (by omega)) dL_law_485 ?_
    refine st_i (y := iI z0) ((congrArg xs (iI_cl (by omega))).trans e0) ?_
    refine lv_aload_n hx hb dL_law_486 rfl (lv_at hl 1 rfl) ?_
    refine lv_iload hx hb dL_law_487 (lv_at hl 5 rfl) ?_
    refine ib_const hx hb dL_law_489 ?_
    refine ib_add (z := (((5 * n) + 2 : Nat) : Int)) hx hb dL_law_490 (by omega) ?_
    refine st_i (y := iI ((5 * n + 2 : Nat) : Int)) (congrArg iI (by omega)) ?_
    refine va_sld (b := b) (L := L) (xs := xs) hx hb hX hbl hbA hS (iI_vp (i := 5 * n + 2) (by omega) (by omega)) dL_law_491 ?_
    refine st_i (y := iI z1) ((congrArg xs (iI_cl (by omega))).trans e1) ?_
    have hP2 : va_P (dC, dI) vwCl [(m0, .inr (1, [.int th, .ref t0, .ref k0, .ref p0, .int (iI ((w : Nat) : Int))])), (t0, .inl (cI, 24, .inl (fun j => iI ((tb a0 a1 j : Nat) : Int)))), (k0, .inl (cI, 12, .inl (fun j => iI ((K j : Nat) : Int)))), (p0, .inl (cI, 12, .inl (fun j => iI ((q j : Nat) : Int))))] H := va_P_r (w1 := [(o0, .inr (0, [.long (pk a0), .long (pk a1), .long (pkn q w), .int (iI ((w : Nat) : Int))])), (u0, .inl (cJ, 1, .inr (.inl (g))))]) (w2 := [(m0, .inr (1, [.int th, .ref t0, .ref k0, .ref p0, .int (iI ((w : Nat) : Int))])), (t0, .inl (cI, 24, .inl (fun j => iI ((tb a0 a1 j : Nat) : Int)))), (k0, .inl (cI, 12, .inl (fun j => iI ((K j : Nat) : Int)))), (p0, .inl (cI, 12, .inl (fun j => iI ((q j : Nat) : Int))))]) hP
    have hK2 := hK.sub (tys' := [(cI, .int)]) [1] rfl
    have hf9 : cells + 1 + 0 ≤ room_1.cells ∧ slots + 6 + 0 ≤ room_1.slots := ⟨by show cells + 1 + 0 ≤ 1036; omega, by show slots + 6 + 0 ≤ 8286; omega⟩
    have hD2 : va_D (LA s) [(m0, .inr (1, [.int th, .ref t0, .ref k0, .ref p0, .int (iI ((w : Nat) : Int))])), (t0, .inl (cI, 24, .inl (fun j => iI ((tb a0 a1 j : Nat) : Int)))), (k0, .inl (cI, 12, .inl (fun j => iI ((K j : Nat) : Int)))), (p0, .inl (cI, 12, .inl (fun j => iI ((q j : Nat) : Int))))] := va_D_r (w1 := [(o0, .inr (0, [.long (pk a0), .long (pk a1), .long (pkn q w), .int (iI ((w : Nat) : Int))])), (u0, .inl (cJ, 1, .inr (.inl (g))))]) (w2 := [(m0, .inr (1, [.int th, .ref t0, .ref k0, .ref p0, .int (iI ((w : Nat) : Int))])), (t0, .inl (cI, 24, .inl (fun j => iI ((tb a0 a1 j : Nat) : Int)))), (k0, .inl (cI, 12, .inl (fun j => iI ((K j : Nat) : Int)))), (p0, .inl (cI, 12, .inl (fun j => iI ((q j : Nat) : Int))))]) hD
    refine wr_call (va_runV (As := [.int (iI z0), .int (iI z1)]) (rest := []) ⟨hx, hb, hml, hown, hts⟩ (mX1_tone_x1 l dC dI cI m0 t0 k0 p0 a0 a1 K q th w hp0.1 hp1.1 hw hq z0 z1 hz0 hz1 b1) (cwV 2 hts gL_law_X1_tone rfl rfl rfl hvX1_tone ⟨(Nat.le_of_ble_eq_true rfl), (Nat.le_of_ble_eq_true rfl)⟩) (bD_pre (ci := 1) (q0 := 0) hK2 hP2 hD2 rfl rfl rfl) rfl rfl hl.1 rfl (lv_room (Nat.le_of_ble_eq_true rfl)) dL_law_492 hf9) hS (fun q9 h => inW_A hD2 h) (fun H locs hPn hz hk hS => ?_)
    have hP : va_P (dC, dI) vwCl ([(o0, .inr (0, [.long (pk a0), .long (pk a1), .long (pkn q w), .int (iI ((w : Nat) : Int))])), (u0, .inl (cJ, 1, .inr (.inl (g))))] ++ [(m0, .inr (1, [.int (iI 1), .ref t0, .ref k0, .ref p0, .int (iI ((w : Nat) : Int))])), (t0, .inl (cI, 24, .inl (fun j => iI ((tb a0 a1 j : Nat) : Int)))), (k0, .inl (cI, 12, .inl (fun j => iI ((K j : Nat) : Int)))), (p0, .inl (cI, 12, .inl (fun j => iI ((q j : Nat) : Int))))]) H := wj_r (w1 := [(o0, .inr (0, [.long (pk a0), .long (pk a1), .long (pkn q w), .int (iI ((w : Nat) : Int))])), (u0, .inl (cJ, 1, .inr (.inl (g))))]) (w2 := [(m0, .inr (1, [.int th, .ref t0, .ref k0, .ref p0, .int (iI ((w : Nat) : Int))])), (t0, .inl (cI, 24, .inl (fun j => iI ((tb a0 a1 j : Nat) : Int)))), (k0, .inl (cI, 12, .inl (fun j => iI ((K j : Nat) : Int)))), (p0, .inl (cI, 12, .inl (fun j => iI ((q j : Nat) : Int))))]) (w2' := [(m0, .inr (1, [.int (iI 1), .ref t0, .ref k0, .ref p0, .int (iI ((w : Nat) : Int))])), (t0, .inl (cI, 24, .inl (fun j => iI ((tb a0 a1 j : Nat) : Int)))), (k0, .inl (cI, 12, .inl (fun j => iI ((K j : Nat) : Int)))), (p0, .inl (cI, 12, .inl (fun j => iI ((q j : Nat) : Int))))]) hP hD hPn hk
    have hD : va_D (LA s) ([(o0, .inr (0, [.long (pk a0), .long (pk a1), .long (pkn q w), .int (iI ((w : Nat) : Int))])), (u0, .inl (cJ, 1, .inr (.inl (g))))] ++ [(m0, .inr (1, [.int (iI 1), .ref t0, .ref k0, .ref p0, .int (iI ((w : Nat) : Int))])), (t0, .inl (cI, 24, .inl (fun j => iI ((tb a0 a1 j : Nat) : Int)))), (k0, .inl (cI, 12, .inl (fun j => iI ((K j : Nat) : Int)))), (p0, .inl (cI, 12, .inl (fun j => iI ((q j : Nat) : Int))))]) := va_D_same (w := ([(o0, .inr (0, [.long (pk a0), .long (pk a1), .long (pkn q w), .int (iI ((w : Nat) : Int))])), (u0, .inl (cJ, 1, .inr (.inl (g))))] ++ [(m0, .inr (1, [.int th, .ref t0, .ref k0, .ref p0, .int (iI ((w : Nat) : Int))])), (t0, .inl (cI, 24, .inl (fun j => iI ((tb a0 a1 j : Nat) : Int)))), (k0, .inl (cI, 12, .inl (fun j => iI ((K j : Nat) : Int)))), (p0, .inl (cI, 12, .inl (fun j => iI ((q j : Nat) : Int))))])) (Eq.trans (b := [o0, u0, m0, t0, k0, p0]) rfl rfl) hD
    refine va_forget hS.2.2 ?_
    have hS := va_S_nil hS
    refine lv_istore (lv' := [(6, .int (iI 0)), (5, .int (iI 1)), (0, .ref b), (1, .ref o0), (2, .ref m0), (3, .ref u0), (4, .int (iI ((5 * n : Nat) : Int)))]) hx hb dL_law_495 hl (by decide) rfl (fun ls hl => ?_)
    refine lv_aload_n hx hb dL_law_497 rfl (lv_at hl 4 rfl) ?_
    have hP2 : va_P (dC, dI) vwCl [(m0, .inr (1, [.int (iI 1), .ref t0, .ref k0, .ref p0, .int (iI ((w : Nat) : Int))])), (t0, .inl (cI, 24, .inl (fun j => iI ((tb a0 a1 j : Nat) : Int)))), (k0, .inl (cI, 12, .inl (fun j => iI ((K j : Nat) : Int)))), (p0, .inl (cI, 12, .inl (fun j => iI ((q j : Nat) : Int))))] H := va_P_r (w1 := [(o0, .inr (0, [.long (pk a0), .long (pk a1), .long (pkn q w), .int (iI ((w : Nat) : Int))])), (u0, .inl (cJ, 1, .inr (.inl (g))))]) (w2 := [(m0, .inr (1, [.int (iI 1), .ref t0, .ref k0, .ref p0, .int (iI ((w : Nat) : Int))])), (t0, .inl (cI, 24, .inl (fun j => iI ((tb a0 a1 j : Nat) : Int)))), (k0, .inl (cI, 12, .inl (fun j => iI ((K j : Nat) : Int)))), (p0, .inl (cI, 12, .inl (fun j => iI ((q j : Nat) : Int))))]) hP
    have hK2 := hK.sub (tys' := [(cI, .int)]) [1] rfl
    have hf9 : cells + 1 + 0 ≤ room_1.cells ∧ slots + 6 + 0 ≤ room_1.slots := ⟨by show cells + 1 + 0 ≤ 1036; omega, by show slots + 6 + 0 ≤ 8286; omega⟩
    refine rd_call (va_runV (As := []) (rest := []) ⟨hx, hb, hml, hown, hts⟩ (mX1_thrown l dC dI cI m0 t0 k0 p0 a0 a1 K q (iI 1) w hp0.1 hp1.1 hw hq) (cwV 0 hts gL_law_X1_thrown rfl rfl rfl hvX1_thrown ⟨(Nat.le_of_ble_eq_true rfl), (Nat.le_of_ble_eq_true rfl)⟩) (bW_pre (ci := 1) (q0 := 0) hK2 hP2 rfl rfl rfl) rfl rfl hl.1 rfl (lv_room (Nat.le_of_ble_eq_true rfl)) dL_law_498 hf9) ?_
    refine lv_iload hx hb dL_law_501 (lv_at hl 1 rfl) ?_
    refine ib_icmp_eq (tgt := 508) hx hb dL_law_503 (by decide) ⟨by omega, by omega⟩ ⟨by omega, by omega⟩ (fun c_503 => ?_) (fun c_503 => absurd c_503 (by decide))
    refine lv_iload hx hb dL_law_508 (lv_at hl 1 rfl) ?_
    refine ib_if_ne (tgt := 525) hx hb dL_law_510 (by decide) ⟨by omega, by omega⟩ (fun c_510 => ?_) (fun c_510 => absurd c_510 (by decide))
    refine lv_goto (tgt := 1833) hx hb dL_law_525 (by decide) ?_
    exact kk a0 a1 q K w (iI 1) (g) H ls ⟨hp0, hp1, hw, hq, hqd, hP, hD, hS⟩ (lv_sub hl [2, 3, 4, 5, 6] rfl)
  obtain ⟨r, hn0, rfl⟩ := nat_of (z := z0) (k := 4095) (by omega)
  obtain ⟨i, hn1, rfl⟩ := nat_of (z := z1) (k := 4095) (by omega)
  refine lv_aload_n hx hb dL_law_460 rfl (lv_at hl 1 rfl) ?_
  refine lv_aload_n hx hb dL_law_461 rfl (lv_at hl 0 rfl) ?_
  refine lv_iload hx hb dL_law_462 (lv_at hl 4 rfl) ?_
  refine ib_const hx hb dL_law_464 ?_
  refine ib_add (z := (((5 * n) + 1 : Nat) : Int)) hx hb dL_law_465 (by omega) ?_
  refine st_i (y := iI ((5 * n + 1 : Nat) : Int)) (congrArg iI (by omega)) ?_
  refine va_sld (b := b) (L := L) (xs := xs) hx hb hX hbl hbA hS (iI_vp (i := 5 * n + 1) (by omega) (by omega)) dL_law_466 ?_
  refine st_i (y := iI ((r : Nat) : Int)) ((congrArg xs (iI_cl (by omega))).trans e0) ?_
  refine lv_aload_n hx hb dL_law_467 rfl (lv_at hl 0 rfl) ?_
  refine lv_iload hx hb dL_law_468 (lv_at hl 4 rfl) ?_
  refine ib_const hx hb dL_law_470 ?_
  refine ib_add (z := (((5 * n) + 2 : Nat) : Int)) hx hb dL_law_471 (by omega) ?_
  refine st_i (y := iI ((5 * n + 2 : Nat) : Int)) (congrArg iI (by omega)) ?_
  refine va_sld (b := b) (L := L) (xs := xs) hx hb hX hbl hbA hS (iI_vp (i := 5 * n + 2) (by omega) (by omega)) dL_law_472 ?_
  refine st_i (y := iI ((i : Nat) : Int)) ((congrArg xs (iI_cl (by omega))).trans e1) ?_
  refine lv_aload_n hx hb dL_law_473 rfl (lv_at hl 3 rfl) ?_
  have hf9 : cells + 0 ≤ room_1.cells ∧ slots + 0 ≤ room_1.slots := ⟨by show cells + 0 ≤ 1036; omega, by show slots + 0 ≤ 8286; omega⟩
  have hP1 : va_P (dC, dI) vwCl [(o0, .inr (0, [.long (pk a0), .long (pk a1), .long (pkn q w), .int (iI ((w : Nat) : Int))])), (u0, .inl (cJ, 1, .inr (.inl (g))))] H := va_P_l (w1 := [(o0, .inr (0, [.long (pk a0), .long (pk a1), .long (pkn q w), .int (iI ((w : Nat) : Int))])), (u0, .inl (cJ, 1, .inr (.inl (g))))]) (w2 := [(m0, .inr (1, [.int th, .ref t0, .ref k0, .ref p0, .int (iI ((w : Nat) : Int))])), (t0, .inl (cI, 24, .inl (fun j => iI ((tb a0 a1 j : Nat) : Int)))), (k0, .inl (cI, 12, .inl (fun j => iI ((K j : Nat) : Int)))), (p0, .inl (cI, 12, .inl (fun j => iI ((q j : Nat) : Int))))]) hP
  have hD1 : va_D (LA s) [(o0, .inr (0, [.long (pk a0), .long (pk a1), .long (pkn q w), .int (iI ((w : Nat) : Int))])), (u0, .inl (cJ, 1, .inr (.inl (g))))] := va_D_l (w1 := [(o0, .inr (0, [.long (pk a0), .long (pk a1), .long (pkn q w), .int (iI ((w : Nat) : Int))])), (u0, .inl (cJ, 1, .inr (.inl (g))))]) (w2 := [(m0, .inr (1, [.int th, .ref t0, .ref k0, .ref p0, .int (iI ((w : Nat) : Int))])), (t0, .inl (cI, 24, .inl (fun j => iI ((tb a0 a1 j : Nat) : Int)))), (k0, .inl (cI, 12, .inl (fun j => iI ((K j : Nat) : Int)))), (p0, .inl (cI, 12, .inl (fun j => iI ((q j : Nat) : Int))))]) hD
  have hK1 := hK.sub (tys' := [(cJ, .long)]) [0] rfl
  refine wr_call (vx_runSW (As := [.ref o0, .int (iI ((r : Nat) : Int)), .int (iI ((i : Nat) : Int)), .ref u0]) (rest := []) ⟨hx, hb, hml, hown, hts⟩ (mL_tone_ok l dC dI cJ o0 u0 a0 a1 q w hp0 hp1 hw hq hqd g r i (by omega) (by omega)) (vx_cwSW 4 hts gL_law_L_tone rfl rfl rfl hdL_tone ⟨(Nat.le_of_ble_eq_true rfl), (Nat.le_of_ble_eq_true rfl)⟩) (bD_preS hK1 hP1 hD1) rfl rfl hl.1 rfl (lv_room (Nat.le_of_ble_eq_true rfl)) dL_law_474 hf9) hS (fun q9 h => inW_A hD1 h) (fun H locs hPn hz hk hS => ?_)
  have hP : va_P (dC, dI) vwCl ([(o0, .inr (0, [.long (pk a0), .long (pk a1), .long (pkn q w), .int (iI ((w : Nat) : Int))])), (u0, .inl (cJ, 1, .inr (.inl (fun _ => (iI ((rw_ r a0 a1 i : Nat) : Int)).toInt64))))] ++ [(m0, .inr (1, [.int th, .ref t0, .ref k0, .ref p0, .int (iI ((w : Nat) : Int))])), (t0, .inl (cI, 24, .inl (fun j => iI ((tb a0 a1 j : Nat) : Int)))), (k0, .inl (cI, 12, .inl (fun j => iI ((K j : Nat) : Int)))), (p0, .inl (cI, 12, .inl (fun j => iI ((q j : Nat) : Int))))]) H := wj_l (w1 := [(o0, .inr (0, [.long (pk a0), .long (pk a1), .long (pkn q w), .int (iI ((w : Nat) : Int))])), (u0, .inl (cJ, 1, .inr (.inl (g))))]) (w2 := [(m0, .inr (1, [.int th, .ref t0, .ref k0, .ref p0, .int (iI ((w : Nat) : Int))])), (t0, .inl (cI, 24, .inl (fun j => iI ((tb a0 a1 j : Nat) : Int)))), (k0, .inl (cI, 12, .inl (fun j => iI ((K j : Nat) : Int)))), (p0, .inl (cI, 12, .inl (fun j => iI ((q j : Nat) : Int))))]) (w1' := [(o0, .inr (0, [.long (pk a0), .long (pk a1), .long (pkn q w), .int (iI ((w : Nat) : Int))])), (u0, .inl (cJ, 1, .inr (.inl (fun _ => (iI ((rw_ r a0 a1 i : Nat) : Int)).toInt64))))]) hP hD hPn hk
  have hD : va_D (LA s) ([(o0, .inr (0, [.long (pk a0), .long (pk a1), .long (pkn q w), .int (iI ((w : Nat) : Int))])), (u0, .inl (cJ, 1, .inr (.inl (fun _ => (iI ((rw_ r a0 a1 i : Nat) : Int)).toInt64))))] ++ [(m0, .inr (1, [.int th, .ref t0, .ref k0, .ref p0, .int (iI ((w : Nat) : Int))])), (t0, .inl (cI, 24, .inl (fun j => iI ((tb a0 a1 j : Nat) : Int)))), (k0, .inl (cI, 12, .inl (fun j => iI ((K j : Nat) : Int)))), (p0, .inl (cI, 12, .inl (fun j => iI ((q j : Nat) : Int))))]) := va_D_same (w := ([(o0, .inr (0, [.long (pk a0), .long (pk a1), .long (pkn q w), .int (iI ((w : Nat) : Int))])), (u0, .inl (cJ, 1, .inr (.inl (g))))] ++ [(m0, .inr (1, [.int th, .ref t0, .ref k0, .ref p0, .int (iI ((w : Nat) : Int))])), (t0, .inl (cI, 24, .inl (fun j => iI ((tb a0 a1 j : Nat) : Int)))), (k0, .inl (cI, 12, .inl (fun j => iI ((K j : Nat) : Int)))), (p0, .inl (cI, 12, .inl (fun j => iI ((q j : Nat) : Int))))])) (Eq.trans (b := [o0, u0, m0, t0, k0, p0]) rfl rfl) hD
  refine va_forget hS.2.2 ?_
  have hS := va_S_nil hS
  refine W.widen (k := cells + 1) (n := slots + 6) (by omega) (by omega) ?_
  refine lv_istore (lv' := [(5, .int (iI 0)), (0, .ref b), (1, .ref o0), (2, .ref m0), (3, .ref u0), (4, .int (iI ((5 * n : Nat) : Int)))]) hx hb dL_law_477 hl (by decide) rfl (fun ls hl => ?_)
  refine lv_aload_n hx hb dL_law_479 rfl (lv_at hl 3 rfl) ?_
  refine lv_aload_n hx hb dL_law_480 rfl (lv_at hl 1 rfl) ?_
  refine lv_iload hx hb dL_law_481 (lv_at hl 5 rfl) ?_
  refine ib_const hx hb dL_law_483 ?_
  refine ib_add (z := (((5 * n) + 1 : Nat) : Int)) hx hb dL_law_484 (by omega) ?_
  refine st_i (y := iI ((5 * n + 1 : Nat) : Int)) (congrArg iI (by omega)) ?_
  refine va_sld (b := b) (L := L) (xs := xs) hx hb hX hbl hbA hS (iI_vp (i := 5 * n + 1) (by omega) (by omega)) dL_law_485 ?_
  refine st_i (y := iI ((r : Nat) : Int)) ((congrArg xs (iI_cl (by omega))).trans e0) ?_
  refine lv_aload_n hx hb dL_law_486 rfl (lv_at hl 1 rfl) ?_
  refine lv_iload hx hb dL_law_487 (lv_at hl 5 rfl) ?_
  refine ib_const hx hb dL_law_489 ?_
  refine ib_add (z := (((5 * n) + 2 : Nat) : Int)) hx hb dL_law_490 (by omega) ?_
  refine st_i (y := iI ((5 * n + 2 : Nat) : Int)) (congrArg iI (by omega)) ?_
  refine va_sld (b := b) (L := L) (xs := xs) hx hb hX hbl hbA hS (iI_vp (i := 5 * n + 2) (by omega) (by omega)) dL_law_491 ?_
  refine st_i (y := iI ((i : Nat) : Int)) ((congrArg xs (iI_cl (by omega))).trans e1) ?_
  have hP2 : va_P (dC, dI) vwCl [(m0, .inr (1, [.int th, .ref t0, .ref k0, .ref p0, .int (iI ((w : Nat) : Int))])), (t0, .inl (cI, 24, .inl (fun j => iI ((tb a0 a1 j : Nat) : Int)))), (k0, .inl (cI, 12, .inl (fun j => iI ((K j : Nat) : Int)))), (p0, .inl (cI, 12, .inl (fun j => iI ((q j : Nat) : Int))))] H := va_P_r (w1 := [(o0, .inr (0, [.long (pk a0), .long (pk a1), .long (pkn q w), .int (iI ((w : Nat) : Int))])), (u0, .inl (cJ, 1, .inr (.inl (fun _ => (iI ((rw_ r a0 a1 i : Nat) : Int)).toInt64))))]) (w2 := [(m0, .inr (1, [.int th, .ref t0, .ref k0, .ref p0, .int (iI ((w : Nat) : Int))])), (t0, .inl (cI, 24, .inl (fun j => iI ((tb a0 a1 j : Nat) : Int)))), (k0, .inl (cI, 12, .inl (fun j => iI ((K j : Nat) : Int)))), (p0, .inl (cI, 12, .inl (fun j => iI ((q j : Nat) : Int))))]) hP
  have hK2 := hK.sub (tys' := [(cI, .int)]) [1] rfl
  have hf9 : cells + 1 + 0 ≤ room_1.cells ∧ slots + 6 + 0 ≤ room_1.slots := ⟨by show cells + 1 + 0 ≤ 1036; omega, by show slots + 6 + 0 ≤ 8286; omega⟩
  have hD2 : va_D (LA s) [(m0, .inr (1, [.int th, .ref t0, .ref k0, .ref p0, .int (iI ((w : Nat) : Int))])), (t0, .inl (cI, 24, .inl (fun j => iI ((tb a0 a1 j : Nat) : Int)))), (k0, .inl (cI, 12, .inl (fun j => iI ((K j : Nat) : Int)))), (p0, .inl (cI, 12, .inl (fun j => iI ((q j : Nat) : Int))))] := va_D_r (w1 := [(o0, .inr (0, [.long (pk a0), .long (pk a1), .long (pkn q w), .int (iI ((w : Nat) : Int))])), (u0, .inl (cJ, 1, .inr (.inl (fun _ => (iI ((rw_ r a0 a1 i : Nat) : Int)).toInt64))))]) (w2 := [(m0, .inr (1, [.int th, .ref t0, .ref k0, .ref p0, .int (iI ((w : Nat) : Int))])), (t0, .inl (cI, 24, .inl (fun j => iI ((tb a0 a1 j : Nat) : Int)))), (k0, .inl (cI, 12, .inl (fun j => iI ((K j : Nat) : Int)))), (p0, .inl (cI, 12, .inl (fun j => iI ((q j : Nat) : Int))))]) hD
  refine wr_call (va_runV (As := [.int (iI ((r : Nat) : Int)), .int (iI ((i : Nat) : Int))]) (rest := []) ⟨hx, hb, hml, hown, hts⟩ (mX1_tone_ok l dC dI cI m0 t0 k0 p0 a0 a1 K q th w hp0.1 hp1.1 hw hq r i (by omega) (by omega)) (cwV 2 hts gL_law_X1_tone rfl rfl rfl hvX1_tone ⟨(Nat.le_of_ble_eq_true rfl), (Nat.le_of_ble_eq_true rfl)⟩) (bD_pre (ci := 1) (q0 := 0) hK2 hP2 hD2 rfl rfl rfl) rfl rfl hl.1 rfl (lv_room (Nat.le_of_ble_eq_true rfl)) dL_law_492 hf9) hS (fun q9 h => inW_A hD2 h) (fun H locs hPn hz hk hS => ?_)
  have hP : va_P (dC, dI) vwCl ([(o0, .inr (0, [.long (pk a0), .long (pk a1), .long (pkn q w), .int (iI ((w : Nat) : Int))])), (u0, .inl (cJ, 1, .inr (.inl (fun _ => (iI ((rw_ r a0 a1 i : Nat) : Int)).toInt64))))] ++ [(m0, .inr (1, [.int (iI 0), .ref t0, .ref k0, .ref p0, .int (iI ((w : Nat) : Int))])), (t0, .inl (cI, 24, .inl (fun j => iI ((tb a0 a1 j : Nat) : Int)))), (k0, .inl (cI, 12, .inl (fun j => iI ((K j : Nat) : Int)))), (p0, .inl (cI, 12, .inl (fun j => iI ((q j : Nat) : Int))))]) H := wj_r (w1 := [(o0, .inr (0, [.long (pk a0), .long (pk a1), .long (pkn q w), .int (iI ((w : Nat) : Int))])), (u0, .inl (cJ, 1, .inr (.inl (fun _ => (iI ((rw_ r a0 a1 i : Nat) : Int)).toInt64))))]) (w2 := [(m0, .inr (1, [.int th, .ref t0, .ref k0, .ref p0, .int (iI ((w : Nat) : Int))])), (t0, .inl (cI, 24, .inl (fun j => iI ((tb a0 a1 j : Nat) : Int)))), (k0, .inl (cI, 12, .inl (fun j => iI ((K j : Nat) : Int)))), (p0, .inl (cI, 12, .inl (fun j => iI ((q j : Nat) : Int))))]) (w2' := [(m0, .inr (1, [.int (iI 0), .ref t0, .ref k0, .ref p0, .int (iI ((w : Nat) : Int))])), (t0, .inl (cI, 24, .inl (fun j => iI ((tb a0 a1 j : Nat) : Int)))), (k0, .inl (cI, 12, .inl (fun j => iI ((K j : Nat) : Int)))), (p0, .inl (cI, 12, .inl (fun j => iI ((q j : Nat) : Int))))]) hP hD hPn hk
  have hD : va_D (LA s) ([(o0, .inr (0, [.long (pk a0), .long (pk a1), .long (pkn q w), .int (iI ((w : Nat) : Int))])), (u0, .inl (cJ, 1, .inr (.inl (fun _ => (iI ((rw_ r a0 a1 i : Nat) : Int)).toInt64))))] ++ [(m0, .inr (1, [.int (iI 0), .ref t0, .ref k0, .ref p0, .int (iI ((w : Nat) : Int))])), (t0, .inl (cI, 24, .inl (fun j => iI ((tb a0 a1 j : Nat) : Int)))), (k0, .inl (cI, 12, .inl (fun j => iI ((K j : Nat) : Int)))), (p0, .inl (cI, 12, .inl (fun j => iI ((q j : Nat) : Int))))]) := va_D_same (w := ([(o0, .inr (0, [.long (pk a0), .long (pk a1), .long (pkn q w), .int (iI ((w : Nat) : Int))])), (u0, .inl (cJ, 1, .inr (.inl (fun _ => (iI ((rw_ r a0 a1 i : Nat) : Int)).toInt64))))] ++ [(m0, .inr (1, [.int th, .ref t0, .ref k0, .ref p0, .int (iI ((w : Nat) : Int))])), (t0, .inl (cI, 24, .inl (fun j => iI ((tb a0 a1 j : Nat) : Int)))), (k0, .inl (cI, 12, .inl (fun j => iI ((K j : Nat) : Int)))), (p0, .inl (cI, 12, .inl (fun j => iI ((q j : Nat) : Int))))])) (Eq.trans (b := [o0, u0, m0, t0, k0, p0]) rfl rfl) hD
  refine va_forget hS.2.2 ?_
  have hS := va_S_nil hS
  refine lv_istore (lv' := [(6, .int (iI ((rw_ r a0 a1 i : Nat) : Int))), (5, .int (iI 0)), (0, .ref b), (1, .ref o0), (2, .ref m0), (3, .ref u0), (4, .int (iI ((5 * n : Nat) : Int)))]) hx hb dL_law_495 hl (by decide) rfl (fun ls hl => ?_)
  refine lv_aload_n hx hb dL_law_497 rfl (lv_at hl 4 rfl) ?_
  have hP2 : va_P (dC, dI) vwCl [(m0, .inr (1, [.int (iI 0), .ref t0, .ref k0, .ref p0, .int (iI ((w : Nat) : Int))])), (t0, .inl (cI, 24, .inl (fun j => iI ((tb a0 a1 j : Nat) : Int)))), (k0, .inl (cI, 12, .inl (fun j => iI ((K j : Nat) : Int)))), (p0, .inl (cI, 12, .inl (fun j => iI ((q j : Nat) : Int))))] H := va_P_r (w1 := [(o0, .inr (0, [.long (pk a0), .long (pk a1), .long (pkn q w), .int (iI ((w : Nat) : Int))])), (u0, .inl (cJ, 1, .inr (.inl (fun _ => (iI ((rw_ r a0 a1 i : Nat) : Int)).toInt64))))]) (w2 := [(m0, .inr (1, [.int (iI 0), .ref t0, .ref k0, .ref p0, .int (iI ((w : Nat) : Int))])), (t0, .inl (cI, 24, .inl (fun j => iI ((tb a0 a1 j : Nat) : Int)))), (k0, .inl (cI, 12, .inl (fun j => iI ((K j : Nat) : Int)))), (p0, .inl (cI, 12, .inl (fun j => iI ((q j : Nat) : Int))))]) hP
  have hK2 := hK.sub (tys' := [(cI, .int)]) [1] rfl
  have hf9 : cells + 1 + 0 ≤ room_1.cells ∧ slots + 6 + 0 ≤ room_1.slots := ⟨by show cells + 1 + 0 ≤ 1036; omega, by show slots + 6 + 0 ≤ 8286; omega⟩
  refine rd_call (va_runV (As := []) (rest := []) ⟨hx, hb, hml, hown, hts⟩ (mX1_thrown l dC dI cI m0 t0 k0 p0 a0 a1 K q (iI 0) w hp0.1 hp1.1 hw hq) (cwV 0 hts gL_law_X1_thrown rfl rfl rfl hvX1_thrown ⟨(Nat.le_of_ble_eq_true rfl), (Nat.le_of_ble_eq_true rfl)⟩) (bW_pre (ci := 1) (q0 := 0) hK2 hP2 rfl rfl rfl) rfl rfl hl.1 rfl (lv_room (Nat.le_of_ble_eq_true rfl)) dL_law_498 hf9) ?_
  refine lv_iload hx hb dL_law_501 (lv_at hl 1 rfl) ?_
  refine ib_icmp_eq (tgt := 508) hx hb dL_law_503 (by decide) ⟨by omega, by omega⟩ ⟨by omega, by omega⟩ (fun c_503 => ?_) (fun c_503 => absurd c_503 (by decide))
  refine lv_iload hx hb dL_law_508 (lv_at hl 1 rfl) ?_
  refine ib_if_ne (tgt := 525) hx hb dL_law_510 (by decide) ⟨by omega, by omega⟩ (fun c_510 => absurd c_510 (by decide)) (fun c_510 => ?_)
  refine lv_aload_n hx hb dL_law_513 rfl (lv_at hl 5 rfl) ?_
  refine ib_const hx hb dL_law_514 ?_
  refine va_lald hx hb hK hP 1 0 rfl rfl vp0 dL_law_515 ?_
  refine st_l (y := (iI ((rw_ r a0 a1 i : Nat) : Int)).toInt64) rfl ?_
  refine lv_iload hx hb dL_law_516 (lv_at hl 0 rfl) ?_
  refine lv_i2l hx hb dL_law_518 rfl ?_
  refine W.lcmp hx hb dL_law_519 ?_
  refine bl_eq (tgt := 525) hx hb dL_law_520 (by decide) (fun _ => ?_) (fun h => absurd rfl h)
  refine lv_goto (tgt := 1833) hx hb dL_law_525 (by decide) ?_
  exact kk a0 a1 q K w (iI 0) (fun _ => (iI ((rw_ r a0 a1 i : Nat) : Int)).toInt64) H ls ⟨hp0, hp1, hw, hq, hqd, hP, hD, hS⟩ (lv_sub hl [2, 3, 4, 5, 6] rfl)

set_option maxHeartbeats 4000000 in
set_option maxRecDepth 100000 in
theorem law_c5 {p : Program} {l : Launch} {e : Env} {s : State} {m : MethodId} {below : List Frame} {meth : Method} {c : Code} {Q : State → Prop} {dC : Nat → ClassId} {dI : Nat → Nat → Nat} {cI cJ : ClassId} {b L : Nat} {xs : Nat → Int32} (C : LC p l s m meth c (dC, dI) cI cJ b L xs) {o0 u0 m0 t0 k0 p0 : Nat} {a0 a1 q K : Nat → Nat} {w : Nat} {th : Int32} {g : Nat → Int64} {H : Heap} (hI : LI s (dC, dI) cI cJ o0 u0 m0 t0 k0 p0 a0 a1 q K w th g H) {n cells slots : Nat} (hc1 : cells + 1 ≤ 1036) (hc2 : slots + 6 ≤ 8286) (hn : 5 * n + 5 ≤ L) (hL : L ≤ 2560) {ls : Array Slot} (hl : lv_has ls 8 [(0, .ref b), (1, .ref o0), (2, .ref m0), (3, .ref u0), (4, .int (iI ((5 * n : Nat) : Int)))])
    (kk : ∀ (a0 a1 q K : Nat → Nat) (w : Nat) (th : Int32) (g : Nat → Int64) (H : Heap) (ls : Array Slot), LI s (dC, dI) cI cJ o0 u0 m0 t0 k0 p0 a0 a1 q K w th g H → lv_has ls 8 [(0, .ref b), (1, .ref o0), (2, .ref m0), (3, .ref u0), (4, .int (iI ((5 * n : Nat) : Int)))] → W p l e room_1 s m #[Value.ref b] below meth c H [] (cells + 1) (slots + 6) Q (F0 m 1833 ls [])) : W p l e room_1 s m #[Value.ref b] below meth c H [] cells slots Q (F0 m 528 ls []) := by
  obtain ⟨hx, hb, hml, hown, hts, hK, hG0, hN, hX, hbl, hfl⟩ := C
  obtain ⟨hp0, hp1, hw, hq, hqd, hP, hD, hS⟩ := hI
  have hbA : ¬ LA s b := Nat.not_le.mpr hbl
  obtain ⟨z0, hz0, e0⟩ := ex_i (xs (5 * n + 1))
  obtain ⟨z1, hz1, e1⟩ := ex_i (xs (5 * n + 2))
  have hza0 := hz0.1
  have hzb0 := hz0.2
  have hza1 := hz1.1
  have hzb1 := hz1.2
  by_cases b1 : ¬ ((z0 = 0 ∨ z0 = 1) ∧ (0 ≤ z1 ∧ z1 ≤ 10))
  · skip
    refine lv_aload_n hx hb dL_law_528 rfl (lv_at hl 1 rfl) ?_
    refine lv_aload_n hx hb dL_law_529 rfl (lv_at hl 0 rfl) ?_
    refine lv_iload hx hb dL_law_530 (lv_at hl 4 rfl) ?_
    refine ib_const hx hb dL_law_532 ?_
    refine ib_add (z := (((5 * n) + 1 : Nat) : Int)) hx hb dL_law_533 (by omega) ?_
    refine st_i (y := iI ((5 * n + 1 : Nat) : Int)) (congrArg iI (by omega)) ?_
    refine va_sld (b := b) (L := L) (xs := xs) hx hb hX hbl hbA hS (iI_vp (i := 5 * n + 1) (by omega) (by omega)) dL_law_534 ?_
    refine st_i (y := iI z0) ((congrArg xs (iI_cl (by omega))).trans e0) ?_
    refine lv_aload_n hx hb dL_law_535 rfl (lv_at hl 0 rfl) ?_
    refine lv_iload hx hb dL_law_536 (lv_at hl 4 rfl) ?_
    refine ib_const hx hb dL_law_538 ?_
    refine ib_add (z := (((5 * n) + 2 : Nat) : Int)) hx hb dL_law_539 (by omega) ?_
    refine st_i (y := iI ((5 * n + 2 : Nat) : Int)) (congrArg iI (by omega)) ?_
    refine va_sld (b := b) (L := L) (xs := xs) hx hb hX hbl hbA hS (iI_vp (i := 5 * n + 2) (by omega) (by omega)) dL_law_540 ?_
    refine st_i (y := iI z1) ((congrArg xs (iI_cl (by omega))).trans e1) ?_
    refine lv_aload_n hx hb dL_law_541 rfl (lv_at hl 3 rfl) ?_
    have hf9 : cells + 1 ≤ room_1.cells ∧ slots + 6 ≤ room_1.slots := ⟨by show cells + 1 ≤ 1036; omega, by show slots + 6 ≤ 8286; omega⟩
    have hP1 : va_P (dC, dI) vwCl [(o0, .inr (0, [.long (pk a0), .long (pk a1), .long (pkn q w), .int (iI ((w : Nat) : Int))]))] H := va_P_l (w1 := [(o0, .inr (0, [.long (pk a0), .long (pk a1), .long (pkn q w), .int (iI ((w : Nat) : Int))]))]) (w2 := [(u0, .inl (cJ, 1, .inr (.inl (g)))), (m0, .inr (1, [.int th, .ref t0, .ref k0, .ref p0, .int (iI ((w : Nat) : Int))])), (t0, .inl (cI, 24, .inl (fun j => iI ((tb a0 a1 j : Nat) : Int)))), (k0, .inl (cI, 12, .inl (fun j => iI ((K j : Nat) : Int)))), (p0, .inl (cI, 12, .inl (fun j => iI ((q j : Nat) : Int))))]) hP
    have hK1 := hK.sub (tys' := []) [] rfl
    refine rdK_call (vx_runSW (As := [.ref o0, .int (iI z0), .int (iI z1), .ref u0]) (rest := []) ⟨hx, hb, hml, hown, hts⟩ (mL_interval_x1 l hfl dC dI o0 a0 a1 q w hp0 hp1 hw hq hqd u0 z0 z1 hz0 hz1 b1) (vx_cwSW 4 hts gL_law_L_interval rfl rfl rfl hdL_interval ⟨(Nat.le_of_ble_eq_true rfl), (Nat.le_of_ble_eq_true rfl)⟩) (bY_preS hK1 hP1 (hG0.at hS) hN) rfl rfl hl.1 rfl (lv_room (Nat.le_of_ble_eq_true rfl)) dL_law_542 hf9) (fun H hz hk => ?_)
    have hP : va_P (dC, dI) vwCl ([(o0, .inr (0, [.long (pk a0), .long (pk a1), .long (pkn q w), .int (iI ((w : Nat) : Int))])), (u0, .inl (cJ, 1, .inr (.inl (g))))] ++ [(m0, .inr (1, [.int th, .ref t0, .ref k0, .ref p0, .int (iI ((w : Nat) : Int))])), (t0, .inl (cI, 24, .inl (fun j => iI ((tb a0 a1 j : Nat) : Int)))), (k0, .inl (cI, 12, .inl (fun j => iI ((K j : Nat) : Int)))), (p0, .inl (cI, 12, .inl (fun j => iI ((q j : Nat) : Int))))]) H := va_P_new hP hk
    have hS := va_S_new hS hz hk
    refine lv_istore (lv' := [(5, .int (iI 1)), (0, .ref b), (1, .ref o0), (2, .ref m0), (3, .ref u0), (4, .int (iI ((5 * n : Nat) : Int)))]) hx hb dL_law_545 hl (by decide) rfl (fun ls hl => ?_)
    refine lv_aload_n hx hb dL_law_547 rfl (lv_at hl 3 rfl) ?_
    refine lv_aload_n hx hb dL_law_548 rfl (lv_at hl 1 rfl) ?_
    refine lv_iload hx hb dL_law_549 (lv_at hl 5 rfl) ?_
    refine ib_const hx hb dL_law_551 ?_
    refine ib_add (z := (((5 * n) + 1 : Nat) : Int)) hx hb dL_law_552 (by omega) ?_
    refine st_i (y := iI ((5 * n + 1 : Nat) : Int)) (congrArg iI (by omega)) ?_
    refine va_sld (b := b) (L := L) (xs := xs) hx hb hX hbl hbA hS (iI_vp (i := 5 * n + 1) (by omega) (by omega)) dL_law_553 ?_
    refine st_i (y := iI z0) ((congrArg xs (iI_cl (by omega))).trans e0) ?_
    refine lv_aload_n hx hb dL_law_554 rfl (lv_at hl 1 rfl) ?_
    refine lv_iload hx hb dL_law_555 (lv_at hl 5 rfl) ?_
    refine ib_const hx hb dL_law_557 ?_
    refine ib_add (z := (((5 * n) + 2 : Nat) : Int)) hx hb dL_law_558 (by omega) ?_
    refine st_i (y := iI ((5 * n + 2 : Nat) : Int)) (congrArg iI (by omega)) ?_
    refine va_sld (b := b) (L := L) (xs := xs) hx hb hX hbl hbA hS (iI_vp (i := 5 * n + 2) (by omega) (by omega)) dL_law_559 ?_
    refine st_i (y := iI z1) ((congrArg xs (iI_cl (by omega))).trans e1) ?_
    have hP2 : va_P (dC, dI) vwCl [(m0, .inr (1, [.int th, .ref t0, .ref k0, .ref p0, .int (iI ((w : Nat) : Int))])), (t0, .inl (cI, 24, .inl (fun j => iI ((tb a0 a1 j : Nat) : Int)))), (k0, .inl (cI, 12, .inl (fun j => iI ((K j : Nat) : Int)))), (p0, .inl (cI, 12, .inl (fun j => iI ((q j : Nat) : Int))))] H := va_P_r (w1 := [(o0, .inr (0, [.long (pk a0), .long (pk a1), .long (pkn q w), .int (iI ((w : Nat) : Int))])), (u0, .inl (cJ, 1, .inr (.inl (g))))]) (w2 := [(m0, .inr (1, [.int th, .ref t0, .ref k0, .ref p0, .int (iI ((w : Nat) : Int))])), (t0, .inl (cI, 24, .inl (fun j => iI ((tb a0 a1 j : Nat) : Int)))), (k0, .inl (cI, 12, .inl (fun j => iI ((K j : Nat) : Int)))), (p0, .inl (cI, 12, .inl (fun j => iI ((q j : Nat) : Int))))]) hP
    have hK2 := hK.sub (tys' := [(cI, .int)]) [1] rfl
    have hf9 : cells + 1 + 0 ≤ room_1.cells ∧ slots + 6 + 0 ≤ room_1.slots := ⟨by show cells + 1 + 0 ≤ 1036; omega, by show slots + 6 + 0 ≤ 8286; omega⟩
    have hD2 : va_D (LA s) [(m0, .inr (1, [.int th, .ref t0, .ref k0, .ref p0, .int (iI ((w : Nat) : Int))])), (t0, .inl (cI, 24, .inl (fun j => iI ((tb a0 a1 j : Nat) : Int)))), (k0, .inl (cI, 12, .inl (fun j => iI ((K j : Nat) : Int)))), (p0, .inl (cI, 12, .inl (fun j => iI ((q j : Nat) : Int))))] := va_D_r (w1 := [(o0, .inr (0, [.long (pk a0), .long (pk a1), .long (pkn q w), .int (iI ((w : Nat) : Int))])), (u0, .inl (cJ, 1, .inr (.inl (g))))]) (w2 := [(m0, .inr (1, [.int th, .ref t0, .ref k0, .ref p0, .int (iI ((w : Nat) : Int))])), (t0, .inl (cI, 24, .inl (fun j => iI ((tb a0 a1 j : Nat) : Int)))), (k0, .inl (cI, 12, .inl (fun j => iI ((K j : Nat) : Int)))), (p0, .inl (cI, 12, .inl (fun j => iI ((q j : Nat) : Int))))]) hD
    refine wr_call (va_runV (As := [.int (iI z0), .int (iI z1)]) (rest := []) ⟨hx, hb, hml, hown, hts⟩ (mX1_interval_x1 l dC dI cI m0 t0 k0 p0 a0 a1 K q th w hp0.1 hp1.1 hw hq z0 z1 hz0 hz1 b1) (cwV 2 hts gL_law_X1_interval rfl rfl rfl hvX1_interval ⟨(Nat.le_of_ble_eq_true rfl), (Nat.le_of_ble_eq_true rfl)⟩) (bD_pre (ci := 1) (q0 := 0) hK2 hP2 hD2 rfl rfl rfl) rfl rfl hl.1 rfl (lv_room (Nat.le_of_ble_eq_true rfl)) dL_law_560 hf9) hS (fun q9 h => inW_A hD2 h) (fun H locs hPn hz hk hS => ?_)
    have hP : va_P (dC, dI) vwCl ([(o0, .inr (0, [.long (pk a0), .long (pk a1), .long (pkn q w), .int (iI ((w : Nat) : Int))])), (u0, .inl (cJ, 1, .inr (.inl (g))))] ++ [(m0, .inr (1, [.int (iI 1), .ref t0, .ref k0, .ref p0, .int (iI ((w : Nat) : Int))])), (t0, .inl (cI, 24, .inl (fun j => iI ((tb a0 a1 j : Nat) : Int)))), (k0, .inl (cI, 12, .inl (fun j => iI ((K j : Nat) : Int)))), (p0, .inl (cI, 12, .inl (fun j => iI ((q j : Nat) : Int))))]) H := wj_r (w1 := [(o0, .inr (0, [.long (pk a0), .long (pk a1), .long (pkn q w), .int (iI ((w : Nat) : Int))])), (u0, .inl (cJ, 1, .inr (.inl (g))))]) (w2 := [(m0, .inr (1, [.int th, .ref t0, .ref k0, .ref p0, .int (iI ((w : Nat) : Int))])), (t0, .inl (cI, 24, .inl (fun j => iI ((tb a0 a1 j : Nat) : Int)))), (k0, .inl (cI, 12, .inl (fun j => iI ((K j : Nat) : Int)))), (p0, .inl (cI, 12, .inl (fun j => iI ((q j : Nat) : Int))))]) (w2' := [(m0, .inr (1, [.int (iI 1), .ref t0, .ref k0, .ref p0, .int (iI ((w : Nat) : Int))])), (t0, .inl (cI, 24, .inl (fun j => iI ((tb a0 a1 j : Nat) : Int)))), (k0, .inl (cI, 12, .inl (fun j => iI ((K j : Nat) : Int)))), (p0, .inl (cI, 12, .inl (fun j => iI ((q j : Nat) : Int))))]) hP hD hPn hk
    have hD : va_D (LA s) ([(o0, .inr (0, [.long (pk a0), .long (pk a1), .long (pkn q w), .int (iI ((w : Nat) : Int))])), (u0, .inl (cJ, 1, .inr (.inl (g))))] ++ [(m0, .inr (1, [.int (iI 1), .ref t0, .ref k0, .ref p0, .int (iI ((w : Nat) : Int))])), (t0, .inl (cI, 24, .inl (fun j => iI ((tb a0 a1 j : Nat) : Int)))), (k0, .inl (cI, 12, .inl (fun j => iI ((K j : Nat) : Int)))), (p0, .inl (cI, 12, .inl (fun j => iI ((q j : Nat) : Int))))]) := va_D_same (w := ([(o0, .inr (0, [.long (pk a0), .long (pk a1), .long (pkn q w), .int (iI ((w : Nat) : Int))])), (u0, .inl (cJ, 1, .inr (.inl (g))))] ++ [(m0, .inr (1, [.int th, .ref t0, .ref k0, .ref p0, .int (iI ((w : Nat) : Int))])), (t0, .inl (cI, 24, .inl (fun j => iI ((tb a0 a1 j : Nat) : Int)))), (k0, .inl (cI, 12, .inl (fun j => iI ((K j : Nat) : Int)))), (p0, .inl (cI, 12, .inl (fun j => iI ((q j : Nat) : Int))))])) (Eq.trans (b := [o0, u0, m0, t0, k0, p0]) rfl rfl) hD
    refine va_forget hS.2.2 ?_
    have hS := va_S_nil hS
    refine lv_istore (lv' := [(6, .int (iI 0)), (5, .int (iI 1)), (0, .ref b), (1, .ref o0), (2, .ref m0), (3, .ref u0), (4, .int (iI ((5 * n : Nat) : Int)))]) hx hb dL_law_563 hl (by decide) rfl (fun ls hl => ?_)
    refine lv_aload_n hx hb dL_law_565 rfl (lv_at hl 4 rfl) ?_
    have hP2 : va_P (dC, dI) vwCl [(m0, .inr (1, [.int (iI 1), .ref t0, .ref k0, .ref p0, .int (iI ((w : Nat) : Int))])), (t0, .inl (cI, 24, .inl (fun j => iI ((tb a0 a1 j : Nat) : Int)))), (k0, .inl (cI, 12, .inl (fun j => iI ((K j : Nat) : Int)))), (p0, .inl (cI, 12, .inl (fun j => iI ((q j : Nat) : Int))))] H := va_P_r (w1 := [(o0, .inr (0, [.long (pk a0), .long (pk a1), .long (pkn q w), .int (iI ((w : Nat) : Int))])), (u0, .inl (cJ, 1, .inr (.inl (g))))]) (w2 := [(m0, .inr (1, [.int (iI 1), .ref t0, .ref k0, .ref p0, .int (iI ((w : Nat) : Int))])), (t0, .inl (cI, 24, .inl (fun j => iI ((tb a0 a1 j : Nat) : Int)))), (k0, .inl (cI, 12, .inl (fun j => iI ((K j : Nat) : Int)))), (p0, .inl (cI, 12, .inl (fun j => iI ((q j : Nat) : Int))))]) hP
    have hK2 := hK.sub (tys' := [(cI, .int)]) [1] rfl
    have hf9 : cells + 1 + 0 ≤ room_1.cells ∧ slots + 6 + 0 ≤ room_1.slots := ⟨by show cells + 1 + 0 ≤ 1036; omega, by show slots + 6 + 0 ≤ 8286; omega⟩
    refine rd_call (va_runV (As := []) (rest := []) ⟨hx, hb, hml, hown, hts⟩ (mX1_thrown l dC dI cI m0 t0 k0 p0 a0 a1 K q (iI 1) w hp0.1 hp1.1 hw hq) (cwV 0 hts gL_law_X1_thrown rfl rfl rfl hvX1_thrown ⟨(Nat.le_of_ble_eq_true rfl), (Nat.le_of_ble_eq_true rfl)⟩) (bW_pre (ci := 1) (q0 := 0) hK2 hP2 rfl rfl rfl) rfl rfl hl.1 rfl (lv_room (Nat.le_of_ble_eq_true rfl)) dL_law_566 hf9) ?_
    refine lv_iload hx hb dL_law_569 (lv_at hl 1 rfl) ?_
    refine ib_icmp_eq (tgt := 576) hx hb dL_law_571 (by decide) ⟨by omega, by omega⟩ ⟨by omega, by omega⟩ (fun c_571 => ?_) (fun c_571 => absurd c_571 (by decide))
    refine lv_iload hx hb dL_law_576 (lv_at hl 1 rfl) ?_
    refine ib_if_ne (tgt := 593) hx hb dL_law_578 (by decide) ⟨by omega, by omega⟩ (fun c_578 => ?_) (fun c_578 => absurd c_578 (by decide))
    refine lv_goto (tgt := 1833) hx hb dL_law_593 (by decide) ?_
    exact kk a0 a1 q K w (iI 1) (g) H ls ⟨hp0, hp1, hw, hq, hqd, hP, hD, hS⟩ (lv_sub hl [2, 3, 4, 5, 6] rfl)
  obtain ⟨r, hn0, rfl⟩ := nat_of (z := z0) (k := 4095) (by omega)
  obtain ⟨i, hn1, rfl⟩ := nat_of (z := z1) (k := 4095) (by omega)
  refine lv_aload_n hx hb dL_law_528 rfl (lv_at hl 1 rfl) ?_
  refine lv_aload_n hx hb dL_law_529 rfl (lv_at hl 0 rfl) ?_
  refine lv_iload hx hb dL_law_530 (lv_at hl 4 rfl) ?_
  refine ib_const hx hb dL_law_532 ?_
  refine ib_add (z := (((5 * n) + 1 : Nat) : Int)) hx hb dL_law_533 (by omega) ?_
  refine st_i (y := iI ((5 * n + 1 : Nat) : Int)) (congrArg iI (by omega)) ?_
  refine va_sld (b := b) (L := L) (xs := xs) hx hb hX hbl hbA hS (iI_vp (i := 5 * n + 1) (by omega) (by omega)) dL_law_534 ?_
  refine st_i (y := iI ((r : Nat) : Int)) ((congrArg xs (iI_cl (by omega))).trans e0) ?_
  refine lv_aload_n hx hb dL_law_535 rfl (lv_at hl 0 rfl) ?_
  refine lv_iload hx hb dL_law_536 (lv_at hl 4 rfl) ?_
  refine ib_const hx hb dL_law_538 ?_
  refine ib_add (z := (((5 * n) + 2 : Nat) : Int)) hx hb dL_law_539 (by omega) ?_
  refine st_i (y := iI ((5 * n + 2 : Nat) : Int)) (congrArg iI (by omega)) ?_
  refine va_sld (b := b) (L := L) (xs := xs) hx hb hX hbl hbA hS (iI_vp (i := 5 * n + 2) (by omega) (by omega)) dL_law_540 ?_
  refine st_i (y := iI ((i : Nat) : Int)) ((congrArg xs (iI_cl (by omega))).trans e1) ?_
  refine lv_aload_n hx hb dL_law_541 rfl (lv_at hl 3 rfl) ?_
  have hf9 : cells + 0 ≤ room_1.cells ∧ slots + 0 ≤ room_1.slots := ⟨by show cells + 0 ≤ 1036; omega, by show slots + 0 ≤ 8286; omega⟩
  have hP1 : va_P (dC, dI) vwCl [(o0, .inr (0, [.long (pk a0), .long (pk a1), .long (pkn q w), .int (iI ((w : Nat) : Int))])), (u0, .inl (cJ, 1, .inr (.inl (g))))] H := va_P_l (w1 := [(o0, .inr (0, [.long (pk a0), .long (pk a1), .long (pkn q w), .int (iI ((w : Nat) : Int))])), (u0, .inl (cJ, 1, .inr (.inl (g))))]) (w2 := [(m0, .inr (1, [.int th, .ref t0, .ref k0, .ref p0, .int (iI ((w : Nat) : Int))])), (t0, .inl (cI, 24, .inl (fun j => iI ((tb a0 a1 j : Nat) : Int)))), (k0, .inl (cI, 12, .inl (fun j => iI ((K j : Nat) : Int)))), (p0, .inl (cI, 12, .inl (fun j => iI ((q j : Nat) : Int))))]) hP
  have hD1 : va_D (LA s) [(o0, .inr (0, [.long (pk a0), .long (pk a1), .long (pkn q w), .int (iI ((w : Nat) : Int))])), (u0, .inl (cJ, 1, .inr (.inl (g))))] := va_D_l (w1 := [(o0, .inr (0, [.long (pk a0), .long (pk a1), .long (pkn q w), .int (iI ((w : Nat) : Int))])), (u0, .inl (cJ, 1, .inr (.inl (g))))]) (w2 := [(m0, .inr (1, [.int th, .ref t0, .ref k0, .ref p0, .int (iI ((w : Nat) : Int))])), (t0, .inl (cI, 24, .inl (fun j => iI ((tb a0 a1 j : Nat) : Int)))), (k0, .inl (cI, 12, .inl (fun j => iI ((K j : Nat) : Int)))), (p0, .inl (cI, 12, .inl (fun j => iI ((q j : Nat) : Int))))]) hD
  have hK1 := hK.sub (tys' := [(cJ, .long)]) [0] rfl
  refine wr_call (vx_runSW (As := [.ref o0, .int (iI ((r : Nat) : Int)), .int (iI ((i : Nat) : Int)), .ref u0]) (rest := []) ⟨hx, hb, hml, hown, hts⟩ (mL_interval_ok l dC dI cJ o0 u0 a0 a1 q w hp0 hp1 hw hq hqd g r i (by omega) (by omega)) (vx_cwSW 4 hts gL_law_L_interval rfl rfl rfl hdL_interval ⟨(Nat.le_of_ble_eq_true rfl), (Nat.le_of_ble_eq_true rfl)⟩) (bD_preS hK1 hP1 hD1) rfl rfl hl.1 rfl (lv_room (Nat.le_of_ble_eq_true rfl)) dL_law_542 hf9) hS (fun q9 h => inW_A hD1 h) (fun H locs hPn hz hk hS => ?_)
  have hP : va_P (dC, dI) vwCl ([(o0, .inr (0, [.long (pk a0), .long (pk a1), .long (pkn q w), .int (iI ((w : Nat) : Int))])), (u0, .inl (cJ, 1, .inr (.inl (fun _ => (iI ((md (((rw_ r a0 a1 (i + 1) : Nat) : Int) - ((rw_ r a0 a1 i : Nat) : Int)) : Nat) : Int)).toInt64))))] ++ [(m0, .inr (1, [.int th, .ref t0, .ref k0, .ref p0, .int (iI ((w : Nat) : Int))])), (t0, .inl (cI, 24, .inl (fun j => iI ((tb a0 a1 j : Nat) : Int)))), (k0, .inl (cI, 12, .inl (fun j => iI ((K j : Nat) : Int)))), (p0, .inl (cI, 12, .inl (fun j => iI ((q j : Nat) : Int))))]) H := wj_l (w1 := [(o0, .inr (0, [.long (pk a0), .long (pk a1), .long (pkn q w), .int (iI ((w : Nat) : Int))])), (u0, .inl (cJ, 1, .inr (.inl (g))))]) (w2 := [(m0, .inr (1, [.int th, .ref t0, .ref k0, .ref p0, .int (iI ((w : Nat) : Int))])), (t0, .inl (cI, 24, .inl (fun j => iI ((tb a0 a1 j : Nat) : Int)))), (k0, .inl (cI, 12, .inl (fun j => iI ((K j : Nat) : Int)))), (p0, .inl (cI, 12, .inl (fun j => iI ((q j : Nat) : Int))))]) (w1' := [(o0, .inr (0, [.long (pk a0), .long (pk a1), .long (pkn q w), .int (iI ((w : Nat) : Int))])), (u0, .inl (cJ, 1, .inr (.inl (fun _ => (iI ((md (((rw_ r a0 a1 (i + 1) : Nat) : Int) - ((rw_ r a0 a1 i : Nat) : Int)) : Nat) : Int)).toInt64))))]) hP hD hPn hk
  have hD : va_D (LA s) ([(o0, .inr (0, [.long (pk a0), .long (pk a1), .long (pkn q w), .int (iI ((w : Nat) : Int))])), (u0, .inl (cJ, 1, .inr (.inl (fun _ => (iI ((md (((rw_ r a0 a1 (i + 1) : Nat) : Int) - ((rw_ r a0 a1 i : Nat) : Int)) : Nat) : Int)).toInt64))))] ++ [(m0, .inr (1, [.int th, .ref t0, .ref k0, .ref p0, .int (iI ((w : Nat) : Int))])), (t0, .inl (cI, 24, .inl (fun j => iI ((tb a0 a1 j : Nat) : Int)))), (k0, .inl (cI, 12, .inl (fun j => iI ((K j : Nat) : Int)))), (p0, .inl (cI, 12, .inl (fun j => iI ((q j : Nat) : Int))))]) := va_D_same (w := ([(o0, .inr (0, [.long (pk a0), .long (pk a1), .long (pkn q w), .int (iI ((w : Nat) : Int))])), (u0, .inl (cJ, 1, .inr (.inl (g))))] ++ [(m0, .inr (1, [.int th, .ref t0, .ref k0, .ref p0, .int (iI ((w : Nat) : Int))])), (t0, .inl (cI, 24, .inl (fun j => iI ((tb a0 a1 j : Nat) : Int)))), (k0, .inl (cI, 12, .inl (fun j => iI ((K j : Nat) : Int)))), (p0, .inl (cI, 12, .inl (fun j => iI ((q j : Nat) : Int))))])) (Eq.trans (b := [o0, u0, m0, t0, k0, p0]) rfl rfl) hD
  refine va_forget hS.2.2 ?_
  have hS := va_S_nil hS
  refine W.widen (k := cells + 1) (n := slots + 6) (by omega) (by omega) ?_
  refine lv_istore (lv' := [(5, .int (iI 0)), (0, .ref b), (1, .ref o0), (2, .ref m0), (3, .ref u0), (4, .int (iI ((5 * n : Nat) : Int)))]) hx hb dL_law_545 hl (by decide) rfl (fun ls hl => ?_)
  refine lv_aload_n hx hb dL_law_547 rfl (lv_at hl 3 rfl) ?_
  refine lv_aload_n hx hb dL_law_548 rfl (lv_at hl 1 rfl) ?_
  refine lv_iload hx hb dL_law_549 (lv_at hl 5 rfl) ?_
  refine ib_const hx hb dL_law_551 ?_
  refine ib_add (z := (((5 * n) + 1 : Nat) : Int)) hx hb dL_law_552 (by omega) ?_
  refine st_i (y := iI ((5 * n + 1 : Nat) : Int)) (congrArg iI (by omega)) ?_
  refine va_sld (b := b) (L := L) (xs := xs) hx hb hX hbl hbA hS (iI_vp (i := 5 * n + 1) (by omega) (by omega)) dL_law_553 ?_
  refine st_i (y := iI ((r : Nat) : Int)) ((congrArg xs (iI_cl (by omega))).trans e0) ?_
  refine lv_aload_n hx hb dL_law_554 rfl (lv_at hl 1 rfl) ?_
  refine lv_iload hx hb dL_law_555 (lv_at hl 5 rfl) ?_
  refine ib_const hx hb dL_law_557 ?_
  refine ib_add (z := (((5 * n) + 2 : Nat) : Int)) hx hb dL_law_558 (by omega) ?_
  refine st_i (y := iI ((5 * n + 2 : Nat) : Int)) (congrArg iI (by omega)) ?_
  refine va_sld (b := b) (L := L) (xs := xs) hx hb hX hbl hbA hS (iI_vp (i := 5 * n + 2) (by omega) (by omega)) dL_law_559 ?_
  refine st_i (y := iI ((i : Nat) : Int)) ((congrArg xs (iI_cl (by omega))).trans e1) ?_
  have hP2 : va_P (dC, dI) vwCl [(m0, .inr (1, [.int th, .ref t0, .ref k0, .ref p0, .int (iI ((w : Nat) : Int))])), (t0, .inl (cI, 24, .inl (fun j => iI ((tb a0 a1 j : Nat) : Int)))), (k0, .inl (cI, 12, .inl (fun j => iI ((K j : Nat) : Int)))), (p0, .inl (cI, 12, .inl (fun j => iI ((q j : Nat) : Int))))] H := va_P_r (w1 := [(o0, .inr (0, [.long (pk a0), .long (pk a1), .long (pkn q w), .int (iI ((w : Nat) : Int))])), (u0, .inl (cJ, 1, .inr (.inl (fun _ => (iI ((md (((rw_ r a0 a1 (i + 1) : Nat) : Int) - ((rw_ r a0 a1 i : Nat) : Int)) : Nat) : Int)).toInt64))))]) (w2 := [(m0, .inr (1, [.int th, .ref t0, .ref k0, .ref p0, .int (iI ((w : Nat) : Int))])), (t0, .inl (cI, 24, .inl (fun j => iI ((tb a0 a1 j : Nat) : Int)))), (k0, .inl (cI, 12, .inl (fun j => iI ((K j : Nat) : Int)))), (p0, .inl (cI, 12, .inl (fun j => iI ((q j : Nat) : Int))))]) hP
  have hK2 := hK.sub (tys' := [(cI, .int)]) [1] rfl
  have hf9 : cells + 1 + 0 ≤ room_1.cells ∧ slots + 6 + 0 ≤ room_1.slots := ⟨by show cells + 1 + 0 ≤ 1036; omega, by show slots + 6 + 0 ≤ 8286; omega⟩
  have hD2 : va_D (LA s) [(m0, .inr (1, [.int th, .ref t0, .ref k0, .ref p0, .int (iI ((w : Nat) : Int))])), (t0, .inl (cI, 24, .inl (fun j => iI ((tb a0 a1 j : Nat) : Int)))), (k0, .inl (cI, 12, .inl (fun j => iI ((K j : Nat) : Int)))), (p0, .inl (cI, 12, .inl (fun j => iI ((q j : Nat) : Int))))] := va_D_r (w1 := [(o0, .inr (0, [.long (pk a0), .long (pk a1), .long (pkn q w), .int (iI ((w : Nat) : Int))])), (u0, .inl (cJ, 1, .inr (.inl (fun _ => (iI ((md (((rw_ r a0 a1 (i + 1) : Nat) : Int) - ((rw_ r a0 a1 i : Nat) : Int)) : Nat) : Int)).toInt64))))]) (w2 := [(m0, .inr (1, [.int th, .ref t0, .ref k0, .ref p0, .int (iI ((w : Nat) : Int))])), (t0, .inl (cI, 24, .inl (fun j => iI ((tb a0 a1 j : Nat) : Int)))), (k0, .inl (cI, 12, .inl (fun j => iI ((K j : Nat) : Int)))), (p0, .inl (cI, 12, .inl (fun j => iI ((q j : Nat) : Int))))]) hD
  refine wr_call (va_runV (As := [.int (iI ((r : Nat) : Int)), .int (iI ((i : Nat) : Int))]) (rest := []) ⟨hx, hb, hml, hown, hts⟩ (mX1_interval_ok l dC dI cI m0 t0 k0 p0 a0 a1 K q th w hp0.1 hp1.1 hw hq r i (by omega) (by omega)) (cwV 2 hts gL_law_X1_interval rfl rfl rfl hvX1_interval ⟨(Nat.le_of_ble_eq_true rfl), (Nat.le_of_ble_eq_true rfl)⟩) (bD_pre (ci := 1) (q0 := 0) hK2 hP2 hD2 rfl rfl rfl) rfl rfl hl.1 rfl (lv_room (Nat.le_of_ble_eq_true rfl)) dL_law_560 hf9) hS (fun q9 h => inW_A hD2 h) (fun H locs hPn hz hk hS => ?_)
  have hP : va_P (dC, dI) vwCl ([(o0, .inr (0, [.long (pk a0), .long (pk a1), .long (pkn q w), .int (iI ((w : Nat) : Int))])), (u0, .inl (cJ, 1, .inr (.inl (fun _ => (iI ((md (((rw_ r a0 a1 (i + 1) : Nat) : Int) - ((rw_ r a0 a1 i : Nat) : Int)) : Nat) : Int)).toInt64))))] ++ [(m0, .inr (1, [.int (iI 0), .ref t0, .ref k0, .ref p0, .int (iI ((w : Nat) : Int))])), (t0, .inl (cI, 24, .inl (fun j => iI ((tb a0 a1 j : Nat) : Int)))), (k0, .inl (cI, 12, .inl (fun j => iI ((K j : Nat) : Int)))), (p0, .inl (cI, 12, .inl (fun j => iI ((q j : Nat) : Int))))]) H := wj_r (w1 := [(o0, .inr (0, [.long (pk a0), .long (pk a1), .long (pkn q w), .int (iI ((w : Nat) : Int))])), (u0, .inl (cJ, 1, .inr (.inl (fun _ => (iI ((md (((rw_ r a0 a1 (i + 1) : Nat) : Int) - ((rw_ r a0 a1 i : Nat) : Int)) : Nat) : Int)).toInt64))))]) (w2 := [(m0, .inr (1, [.int th, .ref t0, .ref k0, .ref p0, .int (iI ((w : Nat) : Int))])), (t0, .inl (cI, 24, .inl (fun j => iI ((tb a0 a1 j : Nat) : Int)))), (k0, .inl (cI, 12, .inl (fun j => iI ((K j : Nat) : Int)))), (p0, .inl (cI, 12, .inl (fun j => iI ((q j : Nat) : Int))))]) (w2' := [(m0, .inr (1, [.int (iI 0), .ref t0, .ref k0, .ref p0, .int (iI ((w : Nat) : Int))])), (t0, .inl (cI, 24, .inl (fun j => iI ((tb a0 a1 j : Nat) : Int)))), (k0, .inl (cI, 12, .inl (fun j => iI ((K j : Nat) : Int)))), (p0, .inl (cI, 12, .inl (fun j => iI ((q j : Nat) : Int))))]) hP hD hPn hk
  have hD : va_D (LA s) ([(o0, .inr (0, [.long (pk a0), .long (pk a1), .long (pkn q w), .int (iI ((w : Nat) : Int))])), (u0, .inl (cJ, 1, .inr (.inl (fun _ => (iI ((md (((rw_ r a0 a1 (i + 1) : Nat) : Int) - ((rw_ r a0 a1 i : Nat) : Int)) : Nat) : Int)).toInt64))))] ++ [(m0, .inr (1, [.int (iI 0), .ref t0, .ref k0, .ref p0, .int (iI ((w : Nat) : Int))])), (t0, .inl (cI, 24, .inl (fun j => iI ((tb a0 a1 j : Nat) : Int)))), (k0, .inl (cI, 12, .inl (fun j => iI ((K j : Nat) : Int)))), (p0, .inl (cI, 12, .inl (fun j => iI ((q j : Nat) : Int))))]) := va_D_same (w := ([(o0, .inr (0, [.long (pk a0), .long (pk a1), .long (pkn q w), .int (iI ((w : Nat) : Int))])), (u0, .inl (cJ, 1, .inr (.inl (fun _ => (iI ((md (((rw_ r a0 a1 (i + 1) : Nat) : Int) - ((rw_ r a0 a1 i : Nat) : Int)) : Nat) : Int)).toInt64))))] ++ [(m0, .inr (1, [.int th, .ref t0, .ref k0, .ref p0, .int (iI ((w : Nat) : Int))])), (t0, .inl (cI, 24, .inl (fun j => iI ((tb a0 a1 j : Nat) : Int)))), (k0, .inl (cI, 12, .inl (fun j => iI ((K j : Nat) : Int)))), (p0, .inl (cI, 12, .inl (fun j => iI ((q j : Nat) : Int))))])) (Eq.trans (b := [o0, u0, m0, t0, k0, p0]) rfl rfl) hD
  refine va_forget hS.2.2 ?_
  have hS := va_S_nil hS
  refine lv_istore (lv' := [(6, .int (iI ((md (((rw_ r a0 a1 (i + 1) : Nat) : Int) - ((rw_ r a0 a1 i : Nat) : Int)) : Nat) : Int))), (5, .int (iI 0)), (0, .ref b), (1, .ref o0), (2, .ref m0), (3, .ref u0), (4, .int (iI ((5 * n : Nat) : Int)))]) hx hb dL_law_563 hl (by decide) rfl (fun ls hl => ?_)
  refine lv_aload_n hx hb dL_law_565 rfl (lv_at hl 4 rfl) ?_
  have hP2 : va_P (dC, dI) vwCl [(m0, .inr (1, [.int (iI 0), .ref t0, .ref k0, .ref p0, .int (iI ((w : Nat) : Int))])), (t0, .inl (cI, 24, .inl (fun j => iI ((tb a0 a1 j : Nat) : Int)))), (k0, .inl (cI, 12, .inl (fun j => iI ((K j : Nat) : Int)))), (p0, .inl (cI, 12, .inl (fun j => iI ((q j : Nat) : Int))))] H := va_P_r (w1 := [(o0, .inr (0, [.long (pk a0), .long (pk a1), .long (pkn q w), .int (iI ((w : Nat) : Int))])), (u0, .inl (cJ, 1, .inr (.inl (fun _ => (iI ((md (((rw_ r a0 a1 (i + 1) : Nat) : Int) - ((rw_ r a0 a1 i : Nat) : Int)) : Nat) : Int)).toInt64))))]) (w2 := [(m0, .inr (1, [.int (iI 0), .ref t0, .ref k0, .ref p0, .int (iI ((w : Nat) : Int))])), (t0, .inl (cI, 24, .inl (fun j => iI ((tb a0 a1 j : Nat) : Int)))), (k0, .inl (cI, 12, .inl (fun j => iI ((K j : Nat) : Int)))), (p0, .inl (cI, 12, .inl (fun j => iI ((q j : Nat) : Int))))]) hP
  have hK2 := hK.sub (tys' := [(cI, .int)]) [1] rfl
  have hf9 : cells + 1 + 0 ≤ room_1.cells ∧ slots + 6 + 0 ≤ room_1.slots := ⟨by show cells + 1 + 0 ≤ 1036; omega, by show slots + 6 + 0 ≤ 8286; omega⟩
  refine rd_call (va_runV (As := []) (rest := []) ⟨hx, hb, hml, hown, hts⟩ (mX1_thrown l dC dI cI m0 t0 k0 p0 a0 a1 K q (iI 0) w hp0.1 hp1.1 hw hq) (cwV 0 hts gL_law_X1_thrown rfl rfl rfl hvX1_thrown ⟨(Nat.le_of_ble_eq_true rfl), (Nat.le_of_ble_eq_true rfl)⟩) (bW_pre (ci := 1) (q0 := 0) hK2 hP2 rfl rfl rfl) rfl rfl hl.1 rfl (lv_room (Nat.le_of_ble_eq_true rfl)) dL_law_566 hf9) ?_
  refine lv_iload hx hb dL_law_569 (lv_at hl 1 rfl) ?_
  refine ib_icmp_eq (tgt := 576) hx hb dL_law_571 (by decide) ⟨by omega, by omega⟩ ⟨by omega, by omega⟩ (fun c_571 => ?_) (fun c_571 => absurd c_571 (by decide))
  refine lv_iload hx hb dL_law_576 (lv_at hl 1 rfl) ?_
  refine ib_if_ne (tgt := 593) hx hb dL_law_578 (by decide) ⟨by omega, by omega⟩ (fun c_578 => absurd c_578 (by decide)) (fun c_578 => ?_)
  refine lv_aload_n hx hb dL_law_581 rfl (lv_at hl 5 rfl) ?_
  refine ib_const hx hb dL_law_582 ?_
  refine va_lald hx hb hK hP 1 0 rfl rfl vp0 dL_law_583 ?_
  refine st_l (y := (iI ((md (((rw_ r a0 a1 (i + 1) : Nat) : Int) - ((rw_ r a0 a1 i : Nat) : Int)) : Nat) : Int)).toInt64) rfl ?_
  refine lv_iload hx hb dL_law_584 (lv_at hl 0 rfl) ?_
  refine lv_i2l hx hb dL_law_586 rfl ?_
  refine W.lcmp hx hb dL_law_587 ?_
  refine bl_eq (tgt := 593) hx hb dL_law_588 (by decide) (fun _ => ?_) (fun h => absurd rfl h)
  refine lv_goto (tgt := 1833) hx hb dL_law_593 (by decide) ?_
  exact kk a0 a1 q K w (iI 0) (fun _ => (iI ((md (((rw_ r a0 a1 (i + 1) : Nat) : Int) - ((rw_ r a0 a1 i : Nat) : Int)) : Nat) : Int)).toInt64) H ls ⟨hp0, hp1, hw, hq, hqd, hP, hD, hS⟩ (lv_sub hl [2, 3, 4, 5, 6] rfl)

set_option maxHeartbeats 4000000 in
set_option maxRecDepth 100000 in
theorem law_c6 {p : Program} {l : Launch} {e : Env} {s : State} {m : MethodId} {below : List Frame} {meth : Method} {c : Code} {Q : State → Prop} {dC : Nat → ClassId} {dI : Nat → Nat → Nat} {cI cJ : ClassId} {b L : Nat} {xs : Nat → Int32} (C : LC p l s m meth c (dC, dI) cI cJ b L xs) {o0 u0 m0 t0 k0 p0 : Nat} {a0 a1 q K : Nat → Nat} {w : Nat} {th : Int32} {g : Nat → Int64} {H : Heap} (hI : LI s (dC, dI) cI cJ o0 u0 m0 t0 k0 p0 a0 a1 q K w th g H) {n cells slots : Nat} (hc1 : cells + 1 ≤ 1036) (hc2 : slots + 6 ≤ 8286) (hn : 5 * n + 5 ≤ L) (hL : L ≤ 2560) {ls : Array Slot} (hl : lv_has ls 8 [(0, .ref b), (1, .ref o0), (2, .ref m0), (3, .ref u0), (4, .int (iI ((5 * n : Nat) : Int)))])
    (kk : ∀ (a0 a1 q K : Nat → Nat) (w : Nat) (th : Int32) (g : Nat → Int64) (H : Heap) (ls : Array Slot), LI s (dC, dI) cI cJ o0 u0 m0 t0 k0 p0 a0 a1 q K w th g H → lv_has ls 8 [(0, .ref b), (1, .ref o0), (2, .ref m0), (3, .ref u0), (4, .int (iI ((5 * n : Nat) : Int)))] → W p l e room_1 s m #[Value.ref b] below meth c H [] (cells + 1) (slots + 6) Q (F0 m 1833 ls [])) : W p l e room_1 s m #[Value.ref b] below meth c H [] cells slots Q (F0 m 596 ls []) := by
  obtain ⟨hx, hb, hml, hown, hts, hK, hG0, hN, hX, hbl, hfl⟩ := C
  obtain ⟨hp0, hp1, hw, hq, hqd, hP, hD, hS⟩ := hI
  have hbA : ¬ LA s b := Nat.not_le.mpr hbl
  obtain ⟨z0, hz0, e0⟩ := ex_i (xs (5 * n + 1))
  have hza0 := hz0.1
  have hzb0 := hz0.2
  by_cases b1 : ¬ (z0 = 0 ∨ z0 = 1)
  · skip
    refine lv_aload_n hx hb dL_law_596 rfl (lv_at hl 1 rfl) ?_
    refine lv_aload_n hx hb dL_law_597 rfl (lv_at hl 0 rfl) ?_
    refine lv_iload hx hb dL_law_598 (lv_at hl 4 rfl) ?_
    refine ib_const hx hb dL_law_600 ?_
    refine ib_add (z := (((5 * n) + 1 : Nat) : Int)) hx hb dL_law_601 (by omega) ?_
    refine st_i (y := iI ((5 * n + 1 : Nat) : Int)) (congrArg iI (by omega)) ?_
    refine va_sld (b := b) (L := L) (xs := xs) hx hb hX hbl hbA hS (iI_vp (i := 5 * n + 1) (by omega) (by omega)) dL_law_602 ?_
    refine st_i (y := iI z0) ((congrArg xs (iI_cl (by omega))).trans e0) ?_
    refine lv_aload_n hx hb dL_law_603 rfl (lv_at hl 3 rfl) ?_
    have hf9 : cells + 1 ≤ room_1.cells ∧ slots + 6 ≤ room_1.slots := ⟨by show cells + 1 ≤ 1036; omega, by show slots + 6 ≤ 8286; omega⟩
    have hP1 : va_P (dC, dI) vwCl [(o0, .inr (0, [.long (pk a0), .long (pk a1), .long (pkn q w), .int (iI ((w : Nat) : Int))]))] H := va_P_l (w1 := [(o0, .inr (0, [.long (pk a0), .long (pk a1), .long (pkn q w), .int (iI ((w : Nat) : Int))]))]) (w2 := [(u0, .inl (cJ, 1, .inr (.inl (g)))), (m0, .inr (1, [.int th, .ref t0, .ref k0, .ref p0, .int (iI ((w : Nat) : Int))])), (t0, .inl (cI, 24, .inl (fun j => iI ((tb a0 a1 j : Nat) : Int)))), (k0, .inl (cI, 12, .inl (fun j => iI ((K j : Nat) : Int)))), (p0, .inl (cI, 12, .inl (fun j => iI ((q j : Nat) : Int))))]) hP
    have hK1 := hK.sub (tys' := []) [] rfl
    refine rdK_call (vx_runSW (As := [.ref o0, .int (iI z0), .ref u0]) (rest := []) ⟨hx, hb, hml, hown, hts⟩ (mL_hasAllIntervals_x1 l hfl dC dI o0 a0 a1 q w hp0 hp1 hw hq hqd u0 z0 hz0 b1) (vx_cwSW 3 hts gL_law_L_hasAllIntervals rfl rfl rfl hdL_hasAllIntervals ⟨(Nat.le_of_ble_eq_true rfl), (Nat.le_of_ble_eq_true rfl)⟩) (bY_preS hK1 hP1 (hG0.at hS) hN) rfl rfl hl.1 rfl (lv_room (Nat.le_of_ble_eq_true rfl)) dL_law_604 hf9) (fun H hz hk => ?_)
    have hP : va_P (dC, dI) vwCl ([(o0, .inr (0, [.long (pk a0), .long (pk a1), .long (pkn q w), .int (iI ((w : Nat) : Int))])), (u0, .inl (cJ, 1, .inr (.inl (g))))] ++ [(m0, .inr (1, [.int th, .ref t0, .ref k0, .ref p0, .int (iI ((w : Nat) : Int))])), (t0, .inl (cI, 24, .inl (fun j => iI ((tb a0 a1 j : Nat) : Int)))), (k0, .inl (cI, 12, .inl (fun j => iI ((K j : Nat) : Int)))), (p0, .inl (cI, 12, .inl (fun j => iI ((q j : Nat) : Int))))]) H := va_P_new hP hk
    have hS := va_S_new hS hz hk
    refine lv_istore (lv' := [(5, .int (iI 1)), (0, .ref b), (1, .ref o0), (2, .ref m0), (3, .ref u0), (4, .int (iI ((5 * n : Nat) : Int)))]) hx hb dL_law_607 hl (by decide) rfl (fun ls hl => ?_)
    refine lv_aload_n hx hb dL_law_609 rfl (lv_at hl 3 rfl) ?_
    refine lv_aload_n hx hb dL_law_610 rfl (lv_at hl 1 rfl) ?_
    refine lv_iload hx hb dL_law_611 (lv_at hl 5 rfl) ?_
    refine ib_const hx hb dL_law_613 ?_
    refine ib_add (z := (((5 * n) + 1 : Nat) : Int)) hx hb dL_law_614 (by omega) ?_
    refine st_i (y := iI ((5 * n + 1 : Nat) : Int)) (congrArg iI (by omega)) ?_
    refine va_sld (b := b) (L := L) (xs := xs) hx hb hX hbl hbA hS (iI_vp (i := 5 * n + 1) (by omega) (by omega)) dL_law_615 ?_
    refine st_i (y := iI z0) ((congrArg xs (iI_cl (by omega))).trans e0) ?_
    have hP2 : va_P (dC, dI) vwCl [(m0, .inr (1, [.int th, .ref t0, .ref k0, .ref p0, .int (iI ((w : Nat) : Int))])), (t0, .inl (cI, 24, .inl (fun j => iI ((tb a0 a1 j : Nat) : Int)))), (k0, .inl (cI, 12, .inl (fun j => iI ((K j : Nat) : Int)))), (p0, .inl (cI, 12, .inl (fun j => iI ((q j : Nat) : Int))))] H := va_P_r (w1 := [(o0, .inr (0, [.long (pk a0), .long (pk a1), .long (pkn q w), .int (iI ((w : Nat) : Int))])), (u0, .inl (cJ, 1, .inr (.inl (g))))]) (w2 := [(m0, .inr (1, [.int th, .ref t0, .ref k0, .ref p0, .int (iI ((w : Nat) : Int))])), (t0, .inl (cI, 24, .inl (fun j => iI ((tb a0 a1 j : Nat) : Int)))), (k0, .inl (cI, 12, .inl (fun j => iI ((K j : Nat) : Int)))), (p0, .inl (cI, 12, .inl (fun j => iI ((q j : Nat) : Int))))]) hP
    have hK2 := hK.sub (tys' := [(cI, .int)]) [1] rfl
    have hf9 : cells + 1 + 0 ≤ room_1.cells ∧ slots + 6 + 0 ≤ room_1.slots := ⟨by show cells + 1 + 0 ≤ 1036; omega, by show slots + 6 + 0 ≤ 8286; omega⟩
    have hD2 : va_D (LA s) [(m0, .inr (1, [.int th, .ref t0, .ref k0, .ref p0, .int (iI ((w : Nat) : Int))])), (t0, .inl (cI, 24, .inl (fun j => iI ((tb a0 a1 j : Nat) : Int)))), (k0, .inl (cI, 12, .inl (fun j => iI ((K j : Nat) : Int)))), (p0, .inl (cI, 12, .inl (fun j => iI ((q j : Nat) : Int))))] := va_D_r (w1 := [(o0, .inr (0, [.long (pk a0), .long (pk a1), .long (pkn q w), .int (iI ((w : Nat) : Int))])), (u0, .inl (cJ, 1, .inr (.inl (g))))]) (w2 := [(m0, .inr (1, [.int th, .ref t0, .ref k0, .ref p0, .int (iI ((w : Nat) : Int))])), (t0, .inl (cI, 24, .inl (fun j => iI ((tb a0 a1 j : Nat) : Int)))), (k0, .inl (cI, 12, .inl (fun j => iI ((K j : Nat) : Int)))), (p0, .inl (cI, 12, .inl (fun j => iI ((q j : Nat) : Int))))]) hD
    refine wr_call (va_runV (As := [.int (iI z0)]) (rest := []) ⟨hx, hb, hml, hown, hts⟩ (mX1_hasAllIntervals_x1 l dC dI cI m0 t0 k0 p0 a0 a1 K q th w hp0.1 hp1.1 hw hq z0 hz0 b1) (cwV 1 hts gL_law_X1_hasAllIntervals rfl rfl rfl hvX1_hasAllIntervals ⟨(Nat.le_of_ble_eq_true rfl), (Nat.le_of_ble_eq_true rfl)⟩) (bD_pre (ci := 1) (q0 := 0) hK2 hP2 hD2 rfl rfl rfl) rfl rfl hl.1 rfl (lv_room (Nat.le_of_ble_eq_true rfl)) dL_law_616 hf9) hS (fun q9 h => inW_A hD2 h) (fun H locs hPn hz hk hS => ?_)
    have hP : va_P (dC, dI) vwCl ([(o0, .inr (0, [.long (pk a0), .long (pk a1), .long (pkn q w), .int (iI ((w : Nat) : Int))])), (u0, .inl (cJ, 1, .inr (.inl (g))))] ++ [(m0, .inr (1, [.int (iI 1), .ref t0, .ref k0, .ref p0, .int (iI ((w : Nat) : Int))])), (t0, .inl (cI, 24, .inl (fun j => iI ((tb a0 a1 j : Nat) : Int)))), (k0, .inl (cI, 12, .inl (fun j => iI ((K j : Nat) : Int)))), (p0, .inl (cI, 12, .inl (fun j => iI ((q j : Nat) : Int))))]) H := wj_r (w1 := [(o0, .inr (0, [.long (pk a0), .long (pk a1), .long (pkn q w), .int (iI ((w : Nat) : Int))])), (u0, .inl (cJ, 1, .inr (.inl (g))))]) (w2 := [(m0, .inr (1, [.int th, .ref t0, .ref k0, .ref p0, .int (iI ((w : Nat) : Int))])), (t0, .inl (cI, 24, .inl (fun j => iI ((tb a0 a1 j : Nat) : Int)))), (k0, .inl (cI, 12, .inl (fun j => iI ((K j : Nat) : Int)))), (p0, .inl (cI, 12, .inl (fun j => iI ((q j : Nat) : Int))))]) (w2' := [(m0, .inr (1, [.int (iI 1), .ref t0, .ref k0, .ref p0, .int (iI ((w : Nat) : Int))])), (t0, .inl (cI, 24, .inl (fun j => iI ((tb a0 a1 j : Nat) : Int)))), (k0, .inl (cI, 12, .inl (fun j => iI ((K j : Nat) : Int)))), (p0, .inl (cI, 12, .inl (fun j => iI ((q j : Nat) : Int))))]) hP hD hPn hk
    have hD : va_D (LA s) ([(o0, .inr (0, [.long (pk a0), .long (pk a1), .long (pkn q w), .int (iI ((w : Nat) : Int))])), (u0, .inl (cJ, 1, .inr (.inl (g))))] ++ [(m0, .inr (1, [.int (iI 1), .ref t0, .ref k0, .ref p0, .int (iI ((w : Nat) : Int))])), (t0, .inl (cI, 24, .inl (fun j => iI ((tb a0 a1 j : Nat) : Int)))), (k0, .inl (cI, 12, .inl (fun j => iI ((K j : Nat) : Int)))), (p0, .inl (cI, 12, .inl (fun j => iI ((q j : Nat) : Int))))]) := va_D_same (w := ([(o0, .inr (0, [.long (pk a0), .long (pk a1), .long (pkn q w), .int (iI ((w : Nat) : Int))])), (u0, .inl (cJ, 1, .inr (.inl (g))))] ++ [(m0, .inr (1, [.int th, .ref t0, .ref k0, .ref p0, .int (iI ((w : Nat) : Int))])), (t0, .inl (cI, 24, .inl (fun j => iI ((tb a0 a1 j : Nat) : Int)))), (k0, .inl (cI, 12, .inl (fun j => iI ((K j : Nat) : Int)))), (p0, .inl (cI, 12, .inl (fun j => iI ((q j : Nat) : Int))))])) (Eq.trans (b := [o0, u0, m0, t0, k0, p0]) rfl rfl) hD
    refine va_forget hS.2.2 ?_
    have hS := va_S_nil hS
    refine lv_istore (lv' := [(6, .int (iI 0)), (5, .int (iI 1)), (0, .ref b), (1, .ref o0), (2, .ref m0), (3, .ref u0), (4, .int (iI ((5 * n : Nat) : Int)))]) hx hb dL_law_619 hl (by decide) rfl (fun ls hl => ?_)
    refine lv_aload_n hx hb dL_law_621 rfl (lv_at hl 4 rfl) ?_
    have hP2 : va_P (dC, dI) vwCl [(m0, .inr (1, [.int (iI 1), .ref t0, .ref k0, .ref p0, .int (iI ((w : Nat) : Int))])), (t0, .inl (cI, 24, .inl (fun j => iI ((tb a0 a1 j : Nat) : Int)))), (k0, .inl (cI, 12, .inl (fun j => iI ((K j : Nat) : Int)))), (p0, .inl (cI, 12, .inl (fun j => iI ((q j : Nat) : Int))))] H := va_P_r (w1 := [(o0, .inr (0, [.long (pk a0), .long (pk a1), .long (pkn q w), .int (iI ((w : Nat) : Int))])), (u0, .inl (cJ, 1, .inr (.inl (g))))]) (w2 := [(m0, .inr (1, [.int (iI 1), .ref t0, .ref k0, .ref p0, .int (iI ((w : Nat) : Int))])), (t0, .inl (cI, 24, .inl (fun j => iI ((tb a0 a1 j : Nat) : Int)))), (k0, .inl (cI, 12, .inl (fun j => iI ((K j : Nat) : Int)))), (p0, .inl (cI, 12, .inl (fun j => iI ((q j : Nat) : Int))))]) hP
    have hK2 := hK.sub (tys' := [(cI, .int)]) [1] rfl
    have hf9 : cells + 1 + 0 ≤ room_1.cells ∧ slots + 6 + 0 ≤ room_1.slots := ⟨by show cells + 1 + 0 ≤ 1036; omega, by show slots + 6 + 0 ≤ 8286; omega⟩
    refine rd_call (va_runV (As := []) (rest := []) ⟨hx, hb, hml, hown, hts⟩ (mX1_thrown l dC dI cI m0 t0 k0 p0 a0 a1 K q (iI 1) w hp0.1 hp1.1 hw hq) (cwV 0 hts gL_law_X1_thrown rfl rfl rfl hvX1_thrown ⟨(Nat.le_of_ble_eq_true rfl), (Nat.le_of_ble_eq_true rfl)⟩) (bW_pre (ci := 1) (q0 := 0) hK2 hP2 rfl rfl rfl) rfl rfl hl.1 rfl (lv_room (Nat.le_of_ble_eq_true rfl)) dL_law_622 hf9) ?_
    refine lv_iload hx hb dL_law_625 (lv_at hl 1 rfl) ?_
    refine ib_icmp_eq (tgt := 632) hx hb dL_law_627 (by decide) ⟨by omega, by omega⟩ ⟨by omega, by omega⟩ (fun c_627 => ?_) (fun c_627 => absurd c_627 (by decide))
    refine lv_iload hx hb dL_law_632 (lv_at hl 1 rfl) ?_
    refine ib_if_ne (tgt := 656) hx hb dL_law_634 (by decide) ⟨by omega, by omega⟩ (fun c_634 => ?_) (fun c_634 => absurd c_634 (by decide))
    refine lv_goto (tgt := 1833) hx hb dL_law_656 (by decide) ?_
    exact kk a0 a1 q K w (iI 1) (g) H ls ⟨hp0, hp1, hw, hq, hqd, hP, hD, hS⟩ (lv_sub hl [2, 3, 4, 5, 6] rfl)
  obtain ⟨r, hn0, rfl⟩ := nat_of (z := z0) (k := 4095) (by omega)
  refine lv_aload_n hx hb dL_law_596 rfl (lv_at hl 1 rfl) ?_
  refine lv_aload_n hx hb dL_law_597 rfl (lv_at hl 0 rfl) ?_
  refine lv_iload hx hb dL_law_598 (lv_at hl 4 rfl) ?_
  refine ib_const hx hb dL_law_600 ?_
  refine ib_add (z := (((5 * n) + 1 : Nat) : Int)) hx hb dL_law_601 (by omega) ?_
  refine st_i (y := iI ((5 * n + 1 : Nat) : Int)) (congrArg iI (by omega)) ?_
  refine va_sld (b := b) (L := L) (xs := xs) hx hb hX hbl hbA hS (iI_vp (i := 5 * n + 1) (by omega) (by omega)) dL_law_602 ?_
  refine st_i (y := iI ((r : Nat) : Int)) ((congrArg xs (iI_cl (by omega))).trans e0) ?_
  refine lv_aload_n hx hb dL_law_603 rfl (lv_at hl 3 rfl) ?_
  have hf9 : cells + 0 ≤ room_1.cells ∧ slots + 0 ≤ room_1.slots := ⟨by show cells + 0 ≤ 1036; omega, by show slots + 0 ≤ 8286; omega⟩
  have hP1 : va_P (dC, dI) vwCl [(o0, .inr (0, [.long (pk a0), .long (pk a1), .long (pkn q w), .int (iI ((w : Nat) : Int))])), (u0, .inl (cJ, 1, .inr (.inl (g))))] H := va_P_l (w1 := [(o0, .inr (0, [.long (pk a0), .long (pk a1), .long (pkn q w), .int (iI ((w : Nat) : Int))])), (u0, .inl (cJ, 1, .inr (.inl (g))))]) (w2 := [(m0, .inr (1, [.int th, .ref t0, .ref k0, .ref p0, .int (iI ((w : Nat) : Int))])), (t0, .inl (cI, 24, .inl (fun j => iI ((tb a0 a1 j : Nat) : Int)))), (k0, .inl (cI, 12, .inl (fun j => iI ((K j : Nat) : Int)))), (p0, .inl (cI, 12, .inl (fun j => iI ((q j : Nat) : Int))))]) hP
  have hD1 : va_D (LA s) [(o0, .inr (0, [.long (pk a0), .long (pk a1), .long (pkn q w), .int (iI ((w : Nat) : Int))])), (u0, .inl (cJ, 1, .inr (.inl (g))))] := va_D_l (w1 := [(o0, .inr (0, [.long (pk a0), .long (pk a1), .long (pkn q w), .int (iI ((w : Nat) : Int))])), (u0, .inl (cJ, 1, .inr (.inl (g))))]) (w2 := [(m0, .inr (1, [.int th, .ref t0, .ref k0, .ref p0, .int (iI ((w : Nat) : Int))])), (t0, .inl (cI, 24, .inl (fun j => iI ((tb a0 a1 j : Nat) : Int)))), (k0, .inl (cI, 12, .inl (fun j => iI ((K j : Nat) : Int)))), (p0, .inl (cI, 12, .inl (fun j => iI ((q j : Nat) : Int))))]) hD
  have hK1 := hK.sub (tys' := [(cJ, .long)]) [0] rfl
  refine wr_call (vx_runSW (As := [.ref o0, .int (iI ((r : Nat) : Int)), .ref u0]) (rest := []) ⟨hx, hb, hml, hown, hts⟩ (mL_hasAllIntervals_ok l dC dI cJ o0 u0 a0 a1 q w hp0 hp1 hw hq hqd g r (by omega)) (vx_cwSW 3 hts gL_law_L_hasAllIntervals rfl rfl rfl hdL_hasAllIntervals ⟨(Nat.le_of_ble_eq_true rfl), (Nat.le_of_ble_eq_true rfl)⟩) (bD_preS hK1 hP1 hD1) rfl rfl hl.1 rfl (lv_room (Nat.le_of_ble_eq_true rfl)) dL_law_604 hf9) hS (fun q9 h => inW_A hD1 h) (fun H locs hPn hz hk hS => ?_)
  have hP : va_P (dC, dI) vwCl ([(o0, .inr (0, [.long (pk a0), .long (pk a1), .long (pkn q w), .int (iI ((w : Nat) : Int))])), (u0, .inl (cJ, 1, .inr (.inl (fun _ => (if ivsN (rw_ r a0 a1) 11 = 4094 then (1 : Int64) else 0)))))] ++ [(m0, .inr (1, [.int th, .ref t0, .ref k0, .ref p0, .int (iI ((w : Nat) : Int))])), (t0, .inl (cI, 24, .inl (fun j => iI ((tb a0 a1 j : Nat) : Int)))), (k0, .inl (cI, 12, .inl (fun j => iI ((K j : Nat) : Int)))), (p0, .inl (cI, 12, .inl (fun j => iI ((q j : Nat) : Int))))]) H := wj_l (w1 := [(o0, .inr (0, [.long (pk a0), .long (pk a1), .long (pkn q w), .int (iI ((w : Nat) : Int))])), (u0, .inl (cJ, 1, .inr (.inl (g))))]) (w2 := [(m0, .inr (1, [.int th, .ref t0, .ref k0, .ref p0, .int (iI ((w : Nat) : Int))])), (t0, .inl (cI, 24, .inl (fun j => iI ((tb a0 a1 j : Nat) : Int)))), (k0, .inl (cI, 12, .inl (fun j => iI ((K j : Nat) : Int)))), (p0, .inl (cI, 12, .inl (fun j => iI ((q j : Nat) : Int))))]) (w1' := [(o0, .inr (0, [.long (pk a0), .long (pk a1), .long (pkn q w), .int (iI ((w : Nat) : Int))])), (u0, .inl (cJ, 1, .inr (.inl (fun _ => (if ivsN (rw_ r a0 a1) 11 = 4094 then (1 : Int64) else 0)))))]) hP hD hPn hk
  have hD : va_D (LA s) ([(o0, .inr (0, [.long (pk a0), .long (pk a1), .long (pkn q w), .int (iI ((w : Nat) : Int))])), (u0, .inl (cJ, 1, .inr (.inl (fun _ => (if ivsN (rw_ r a0 a1) 11 = 4094 then (1 : Int64) else 0)))))] ++ [(m0, .inr (1, [.int th, .ref t0, .ref k0, .ref p0, .int (iI ((w : Nat) : Int))])), (t0, .inl (cI, 24, .inl (fun j => iI ((tb a0 a1 j : Nat) : Int)))), (k0, .inl (cI, 12, .inl (fun j => iI ((K j : Nat) : Int)))), (p0, .inl (cI, 12, .inl (fun j => iI ((q j : Nat) : Int))))]) := va_D_same (w := ([(o0, .inr (0, [.long (pk a0), .long (pk a1), .long (pkn q w), .int (iI ((w : Nat) : Int))])), (u0, .inl (cJ, 1, .inr (.inl (g))))] ++ [(m0, .inr (1, [.int th, .ref t0, .ref k0, .ref p0, .int (iI ((w : Nat) : Int))])), (t0, .inl (cI, 24, .inl (fun j => iI ((tb a0 a1 j : Nat) : Int)))), (k0, .inl (cI, 12, .inl (fun j => iI ((K j : Nat) : Int)))), (p0, .inl (cI, 12, .inl (fun j => iI ((q j : Nat) : Int))))])) (Eq.trans (b := [o0, u0, m0, t0, k0, p0]) rfl rfl) hD
  refine va_forget hS.2.2 ?_
  have hS := va_S_nil hS
  refine W.widen (k := cells + 1) (n := slots + 6) (by omega) (by omega) ?_
  refine lv_istore (lv' := [(5, .int (iI 0)), (0, .ref b), (1, .ref o0), (2, .ref m0), (3, .ref u0), (4, .int (iI ((5 * n : Nat) : Int)))]) hx hb dL_law_607 hl (by decide) rfl (fun ls hl => ?_)
  refine lv_aload_n hx hb dL_law_609 rfl (lv_at hl 3 rfl) ?_
  refine lv_aload_n hx hb dL_law_610 rfl (lv_at hl 1 rfl) ?_
  refine lv_iload hx hb dL_law_611 (lv_at hl 5 rfl) ?_
  refine ib_const hx hb dL_law_613 ?_
  refine ib_add (z := (((5 * n) + 1 : Nat) : Int)) hx hb dL_law_614 (by omega) ?_
  refine st_i (y := iI ((5 * n + 1 : Nat) : Int)) (congrArg iI (by omega)) ?_
  refine va_sld (b := b) (L := L) (xs := xs) hx hb hX hbl hbA hS (iI_vp (i := 5 * n + 1) (by omega) (by omega)) dL_law_615 ?_
  refine st_i (y := iI ((r : Nat) : Int)) ((congrArg xs (iI_cl (by omega))).trans e0) ?_
  have hP2 : va_P (dC, dI) vwCl [(m0, .inr (1, [.int th, .ref t0, .ref k0, .ref p0, .int (iI ((w : Nat) : Int))])), (t0, .inl (cI, 24, .inl (fun j => iI ((tb a0 a1 j : Nat) : Int)))), (k0, .inl (cI, 12, .inl (fun j => iI ((K j : Nat) : Int)))), (p0, .inl (cI, 12, .inl (fun j => iI ((q j : Nat) : Int))))] H := va_P_r (w1 := [(o0, .inr (0, [.long (pk a0), .long (pk a1), .long (pkn q w), .int (iI ((w : Nat) : Int))])), (u0, .inl (cJ, 1, .inr (.inl (fun _ => (if ivsN (rw_ r a0 a1) 11 = 4094 then (1 : Int64) else 0)))))]) (w2 := [(m0, .inr (1, [.int th, .ref t0, .ref k0, .ref p0, .int (iI ((w : Nat) : Int))])), (t0, .inl (cI, 24, .inl (fun j => iI ((tb a0 a1 j : Nat) : Int)))), (k0, .inl (cI, 12, .inl (fun j => iI ((K j : Nat) : Int)))), (p0, .inl (cI, 12, .inl (fun j => iI ((q j : Nat) : Int))))]) hP
  have hK2 := hK.sub (tys' := [(cI, .int)]) [1] rfl
  have hf9 : cells + 1 + 0 ≤ room_1.cells ∧ slots + 6 + 0 ≤ room_1.slots := ⟨by show cells + 1 + 0 ≤ 1036; omega, by show slots + 6 + 0 ≤ 8286; omega⟩
  have hD2 : va_D (LA s) [(m0, .inr (1, [.int th, .ref t0, .ref k0, .ref p0, .int (iI ((w : Nat) : Int))])), (t0, .inl (cI, 24, .inl (fun j => iI ((tb a0 a1 j : Nat) : Int)))), (k0, .inl (cI, 12, .inl (fun j => iI ((K j : Nat) : Int)))), (p0, .inl (cI, 12, .inl (fun j => iI ((q j : Nat) : Int))))] := va_D_r (w1 := [(o0, .inr (0, [.long (pk a0), .long (pk a1), .long (pkn q w), .int (iI ((w : Nat) : Int))])), (u0, .inl (cJ, 1, .inr (.inl (fun _ => (if ivsN (rw_ r a0 a1) 11 = 4094 then (1 : Int64) else 0)))))]) (w2 := [(m0, .inr (1, [.int th, .ref t0, .ref k0, .ref p0, .int (iI ((w : Nat) : Int))])), (t0, .inl (cI, 24, .inl (fun j => iI ((tb a0 a1 j : Nat) : Int)))), (k0, .inl (cI, 12, .inl (fun j => iI ((K j : Nat) : Int)))), (p0, .inl (cI, 12, .inl (fun j => iI ((q j : Nat) : Int))))]) hD
  refine wr_call (va_runV (As := [.int (iI ((r : Nat) : Int))]) (rest := []) ⟨hx, hb, hml, hown, hts⟩ (mX1_hasAllIntervals_ok l dC dI cI m0 t0 k0 p0 a0 a1 K q th w hp0.1 hp1.1 hw hq r (by omega)) (cwV 1 hts gL_law_X1_hasAllIntervals rfl rfl rfl hvX1_hasAllIntervals ⟨(Nat.le_of_ble_eq_true rfl), (Nat.le_of_ble_eq_true rfl)⟩) (bD_pre (ci := 1) (q0 := 0) hK2 hP2 hD2 rfl rfl rfl) rfl rfl hl.1 rfl (lv_room (Nat.le_of_ble_eq_true rfl)) dL_law_616 hf9) hS (fun q9 h => inW_A hD2 h) (fun H locs hPn hz hk hS => ?_)
  have hP : va_P (dC, dI) vwCl ([(o0, .inr (0, [.long (pk a0), .long (pk a1), .long (pkn q w), .int (iI ((w : Nat) : Int))])), (u0, .inl (cJ, 1, .inr (.inl (fun _ => (if ivsN (rw_ r a0 a1) 11 = 4094 then (1 : Int64) else 0)))))] ++ [(m0, .inr (1, [.int (iI 0), .ref t0, .ref k0, .ref p0, .int (iI ((w : Nat) : Int))])), (t0, .inl (cI, 24, .inl (fun j => iI ((tb a0 a1 j : Nat) : Int)))), (k0, .inl (cI, 12, .inl (fun j => iI ((K j : Nat) : Int)))), (p0, .inl (cI, 12, .inl (fun j => iI ((q j : Nat) : Int))))]) H := wj_r (w1 := [(o0, .inr (0, [.long (pk a0), .long (pk a1), .long (pkn q w), .int (iI ((w : Nat) : Int))])), (u0, .inl (cJ, 1, .inr (.inl (fun _ => (if ivsN (rw_ r a0 a1) 11 = 4094 then (1 : Int64) else 0)))))]) (w2 := [(m0, .inr (1, [.int th, .ref t0, .ref k0, .ref p0, .int (iI ((w : Nat) : Int))])), (t0, .inl (cI, 24, .inl (fun j => iI ((tb a0 a1 j : Nat) : Int)))), (k0, .inl (cI, 12, .inl (fun j => iI ((K j : Nat) : Int)))), (p0, .inl (cI, 12, .inl (fun j => iI ((q j : Nat) : Int))))]) (w2' := [(m0, .inr (1, [.int (iI 0), .ref t0, .ref k0, .ref p0, .int (iI ((w : Nat) : Int))])), (t0, .inl (cI, 24, .inl (fun j => iI ((tb a0 a1 j : Nat) : Int)))), (k0, .inl (cI, 12, .inl (fun j => iI ((K j : Nat) : Int)))), (p0, .inl (cI, 12, .inl (fun j => iI ((q j : Nat) : Int))))]) hP hD hPn hk
  have hD : va_D (LA s) ([(o0, .inr (0, [.long (pk a0), .long (pk a1), .long (pkn q w), .int (iI ((w : Nat) : Int))])), (u0, .inl (cJ, 1, .inr (.inl (fun _ => (if ivsN (rw_ r a0 a1) 11 = 4094 then (1 : Int64) else 0)))))] ++ [(m0, .inr (1, [.int (iI 0), .ref t0, .ref k0, .ref p0, .int (iI ((w : Nat) : Int))])), (t0, .inl (cI, 24, .inl (fun j => iI ((tb a0 a1 j : Nat) : Int)))), (k0, .inl (cI, 12, .inl (fun j => iI ((K j : Nat) : Int)))), (p0, .inl (cI, 12, .inl (fun j => iI ((q j : Nat) : Int))))]) := va_D_same (w := ([(o0, .inr (0, [.long (pk a0), .long (pk a1), .long (pkn q w), .int (iI ((w : Nat) : Int))])), (u0, .inl (cJ, 1, .inr (.inl (fun _ => (if ivsN (rw_ r a0 a1) 11 = 4094 then (1 : Int64) else 0)))))] ++ [(m0, .inr (1, [.int th, .ref t0, .ref k0, .ref p0, .int (iI ((w : Nat) : Int))])), (t0, .inl (cI, 24, .inl (fun j => iI ((tb a0 a1 j : Nat) : Int)))), (k0, .inl (cI, 12, .inl (fun j => iI ((K j : Nat) : Int)))), (p0, .inl (cI, 12, .inl (fun j => iI ((q j : Nat) : Int))))])) (Eq.trans (b := [o0, u0, m0, t0, k0, p0]) rfl rfl) hD
  refine va_forget hS.2.2 ?_
  have hS := va_S_nil hS
  refine lv_istore (lv' := [(6, .int (iI (bI (ivsN (rw_ r a0 a1) 11 = 4094)))), (5, .int (iI 0)), (0, .ref b), (1, .ref o0), (2, .ref m0), (3, .ref u0), (4, .int (iI ((5 * n : Nat) : Int)))]) hx hb dL_law_619 hl (by decide) rfl (fun ls hl => ?_)
  refine lv_aload_n hx hb dL_law_621 rfl (lv_at hl 4 rfl) ?_
  have hP2 : va_P (dC, dI) vwCl [(m0, .inr (1, [.int (iI 0), .ref t0, .ref k0, .ref p0, .int (iI ((w : Nat) : Int))])), (t0, .inl (cI, 24, .inl (fun j => iI ((tb a0 a1 j : Nat) : Int)))), (k0, .inl (cI, 12, .inl (fun j => iI ((K j : Nat) : Int)))), (p0, .inl (cI, 12, .inl (fun j => iI ((q j : Nat) : Int))))] H := va_P_r (w1 := [(o0, .inr (0, [.long (pk a0), .long (pk a1), .long (pkn q w), .int (iI ((w : Nat) : Int))])), (u0, .inl (cJ, 1, .inr (.inl (fun _ => (if ivsN (rw_ r a0 a1) 11 = 4094 then (1 : Int64) else 0)))))]) (w2 := [(m0, .inr (1, [.int (iI 0), .ref t0, .ref k0, .ref p0, .int (iI ((w : Nat) : Int))])), (t0, .inl (cI, 24, .inl (fun j => iI ((tb a0 a1 j : Nat) : Int)))), (k0, .inl (cI, 12, .inl (fun j => iI ((K j : Nat) : Int)))), (p0, .inl (cI, 12, .inl (fun j => iI ((q j : Nat) : Int))))]) hP
  have hK2 := hK.sub (tys' := [(cI, .int)]) [1] rfl
  have hf9 : cells + 1 + 0 ≤ room_1.cells ∧ slots + 6 + 0 ≤ room_1.slots := ⟨by show cells + 1 + 0 ≤ 1036; omega, by show slots + 6 + 0 ≤ 8286; omega⟩
  refine rd_call (va_runV (As := []) (rest := []) ⟨hx, hb, hml, hown, hts⟩ (mX1_thrown l dC dI cI m0 t0 k0 p0 a0 a1 K q (iI 0) w hp0.1 hp1.1 hw hq) (cwV 0 hts gL_law_X1_thrown rfl rfl rfl hvX1_thrown ⟨(Nat.le_of_ble_eq_true rfl), (Nat.le_of_ble_eq_true rfl)⟩) (bW_pre (ci := 1) (q0 := 0) hK2 hP2 rfl rfl rfl) rfl rfl hl.1 rfl (lv_room (Nat.le_of_ble_eq_true rfl)) dL_law_622 hf9) ?_
  refine lv_iload hx hb dL_law_625 (lv_at hl 1 rfl) ?_
  refine ib_icmp_eq (tgt := 632) hx hb dL_law_627 (by decide) ⟨by omega, by omega⟩ ⟨by omega, by omega⟩ (fun c_627 => ?_) (fun c_627 => absurd c_627 (by decide))
  refine lv_iload hx hb dL_law_632 (lv_at hl 1 rfl) ?_
  refine ib_if_ne (tgt := 656) hx hb dL_law_634 (by decide) ⟨by omega, by omega⟩ (fun c_634 => absurd c_634 (by decide)) (fun c_634 => ?_)
  refine lv_aload_n hx hb dL_law_637 rfl (lv_at hl 5 rfl) ?_
  refine ib_const hx hb dL_law_638 ?_
  refine va_lald hx hb hK hP 1 0 rfl rfl vp0 dL_law_639 ?_
  refine st_l (y := (if ivsN (rw_ r a0 a1) 11 = 4094 then (1 : Int64) else 0)) rfl ?_
  refine lv_iload hx hb dL_law_640 (lv_at hl 0 rfl) ?_
  refine bb_eq (tgt := 649) hx hb dL_law_642 (by decide) (fun c_642 => ?_) (fun c_642 => ?_)
  · skip
    refine lv_lconst (v := 0) hx hb dL_law_649 (by decide) ?_
    refine W.lcmp hx hb dL_law_650 ?_
    refine bl_eq (tgt := 656) hx hb dL_law_651 (by decide) (fun _ => ?_) (fun h => absurd (if_neg c_642) h)
    refine lv_goto (tgt := 1833) hx hb dL_law_656 (by decide) ?_
    exact kk a0 a1 q K w (iI 0) (fun _ => (if ivsN (rw_ r a0 a1) 11 = 4094 then (1 : Int64) else 0)) H ls ⟨hp0, hp1, hw, hq, hqd, hP, hD, hS⟩ (lv_sub hl [2, 3, 4, 5, 6] rfl)
  · skip
    refine lv_lconst (v := 1) hx hb dL_law_645 (by decide) ?_
    refine lv_goto (tgt := 650) hx hb dL_law_646 (by decide) ?_
    refine W.lcmp hx hb dL_law_650 ?_
    refine bl_eq (tgt := 656) hx hb dL_law_651 (by decide) (fun _ => ?_) (fun h => absurd (if_pos c_642) h)
    refine lv_goto (tgt := 1833) hx hb dL_law_656 (by decide) ?_
    exact kk a0 a1 q K w (iI 0) (fun _ => (if ivsN (rw_ r a0 a1) 11 = 4094 then (1 : Int64) else 0)) H ls ⟨hp0, hp1, hw, hq, hqd, hP, hD, hS⟩ (lv_sub hl [2, 3, 4, 5, 6] rfl)

set_option maxHeartbeats 4000000 in
set_option maxRecDepth 100000 in
theorem law_c7 {p : Program} {l : Launch} {e : Env} {s : State} {m : MethodId} {below : List Frame} {meth : Method} {c : Code} {Q : State → Prop} {dC : Nat → ClassId} {dI : Nat → Nat → Nat} {cI cJ : ClassId} {b L : Nat} {xs : Nat → Int32} (C : LC p l s m meth c (dC, dI) cI cJ b L xs) {o0 u0 m0 t0 k0 p0 : Nat} {a0 a1 q K : Nat → Nat} {w : Nat} {th : Int32} {g : Nat → Int64} {H : Heap} (hI : LI s (dC, dI) cI cJ o0 u0 m0 t0 k0 p0 a0 a1 q K w th g H) {n cells slots : Nat} (hc1 : cells + 1 ≤ 1036) (hc2 : slots + 6 ≤ 8286) (hn : 5 * n + 5 ≤ L) (hL : L ≤ 2560) {ls : Array Slot} (hl : lv_has ls 8 [(0, .ref b), (1, .ref o0), (2, .ref m0), (3, .ref u0), (4, .int (iI ((5 * n : Nat) : Int)))])
    (kk : ∀ (a0 a1 q K : Nat → Nat) (w : Nat) (th : Int32) (g : Nat → Int64) (H : Heap) (ls : Array Slot), LI s (dC, dI) cI cJ o0 u0 m0 t0 k0 p0 a0 a1 q K w th g H → lv_has ls 8 [(0, .ref b), (1, .ref o0), (2, .ref m0), (3, .ref u0), (4, .int (iI ((5 * n : Nat) : Int)))] → W p l e room_1 s m #[Value.ref b] below meth c H [] (cells + 1) (slots + 6) Q (F0 m 1833 ls [])) : W p l e room_1 s m #[Value.ref b] below meth c H [] cells slots Q (F0 m 659 ls []) := by
  obtain ⟨hx, hb, hml, hown, hts, hK, hG0, hN, hX, hbl, hfl⟩ := C
  obtain ⟨hp0, hp1, hw, hq, hqd, hP, hD, hS⟩ := hI
  have hbA : ¬ LA s b := Nat.not_le.mpr hbl
  obtain ⟨z0, hz0, e0⟩ := ex_i (xs (5 * n + 1))
  obtain ⟨z1, hz1, e1⟩ := ex_i (xs (5 * n + 2))
  obtain ⟨z2, hz2, e2⟩ := ex_i (xs (5 * n + 3))
  obtain ⟨z3, hz3, e3⟩ := ex_i (xs (5 * n + 4))
  have hza0 := hz0.1
  have hzb0 := hz0.2
  have hza1 := hz1.1
  have hzb1 := hz1.2
  have hza2 := hz2.1
  have hzb2 := hz2.2
  have hza3 := hz3.1
  have hzb3 := hz3.2
  by_cases b1 : ¬ ((z0 = 0 ∨ z0 = 1) ∧ (0 ≤ z3 ∧ z3 ≤ 11))
  · skip
    refine lv_aload_n hx hb dL_law_659 rfl (lv_at hl 1 rfl) ?_
    refine lv_aload_n hx hb dL_law_660 rfl (lv_at hl 0 rfl) ?_
    refine lv_iload hx hb dL_law_661 (lv_at hl 4 rfl) ?_
    refine ib_const hx hb dL_law_663 ?_
    refine ib_add (z := (((5 * n) + 1 : Nat) : Int)) hx hb dL_law_664 (by omega) ?_
    refine st_i (y := iI ((5 * n + 1 : Nat) : Int)) (congrArg iI (by omega)) ?_
    refine va_sld (b := b) (L := L) (xs := xs) hx hb hX hbl hbA hS (iI_vp (i := 5 * n + 1) (by omega) (by omega)) dL_law_665 ?_
    refine st_i (y := iI z0) ((congrArg xs (iI_cl (by omega))).trans e0) ?_
    refine lv_aload_n hx hb dL_law_666 rfl (lv_at hl 0 rfl) ?_
    refine lv_iload hx hb dL_law_667 (lv_at hl 4 rfl) ?_
    refine ib_const hx hb dL_law_669 ?_
    refine ib_add (z := (((5 * n) + 2 : Nat) : Int)) hx hb dL_law_670 (by omega) ?_
    refine st_i (y := iI ((5 * n + 2 : Nat) : Int)) (congrArg iI (by omega)) ?_
    refine va_sld (b := b) (L := L) (xs := xs) hx hb hX hbl hbA hS (iI_vp (i := 5 * n + 2) (by omega) (by omega)) dL_law_671 ?_
    refine st_i (y := iI z1) ((congrArg xs (iI_cl (by omega))).trans e1) ?_
    refine lv_aload_n hx hb dL_law_672 rfl (lv_at hl 0 rfl) ?_
    refine lv_iload hx hb dL_law_673 (lv_at hl 4 rfl) ?_
    refine ib_const hx hb dL_law_675 ?_
    refine ib_add (z := (((5 * n) + 3 : Nat) : Int)) hx hb dL_law_676 (by omega) ?_
    refine st_i (y := iI ((5 * n + 3 : Nat) : Int)) (congrArg iI (by omega)) ?_
    refine va_sld (b := b) (L := L) (xs := xs) hx hb hX hbl hbA hS (iI_vp (i := 5 * n + 3) (by omega) (by omega)) dL_law_677 ?_
    refine st_i (y := iI z2) ((congrArg xs (iI_cl (by omega))).trans e2) ?_
    refine lv_aload_n hx hb dL_law_678 rfl (lv_at hl 0 rfl) ?_
    refine lv_iload hx hb dL_law_679 (lv_at hl 4 rfl) ?_
    refine ib_const hx hb dL_law_681 ?_
    refine ib_add (z := (((5 * n) + 4 : Nat) : Int)) hx hb dL_law_682 (by omega) ?_
    refine st_i (y := iI ((5 * n + 4 : Nat) : Int)) (congrArg iI (by omega)) ?_
    refine va_sld (b := b) (L := L) (xs := xs) hx hb hX hbl hbA hS (iI_vp (i := 5 * n + 4) (by omega) (by omega)) dL_law_683 ?_
    refine st_i (y := iI z3) ((congrArg xs (iI_cl (by omega))).trans e3) ?_
    refine lv_aload_n hx hb dL_law_684 rfl (lv_at hl 3 rfl) ?_
    have hf9 : cells + 1 ≤ room_1.cells ∧ slots + 6 ≤ room_1.slots := ⟨by show cells + 1 ≤ 1036; omega, by show slots + 6 ≤ 8286; omega⟩
    have hP1 : va_P (dC, dI) vwCl [(o0, .inr (0, [.long (pk a0), .long (pk a1), .long (pkn q w), .int (iI ((w : Nat) : Int))]))] H := va_P_l (w1 := [(o0, .inr (0, [.long (pk a0), .long (pk a1), .long (pkn q w), .int (iI ((w : Nat) : Int))]))]) (w2 := [(u0, .inl (cJ, 1, .inr (.inl (g)))), (m0, .inr (1, [.int th, .ref t0, .ref k0, .ref p0, .int (iI ((w : Nat) : Int))])), (t0, .inl (cI, 24, .inl (fun j => iI ((tb a0 a1 j : Nat) : Int)))), (k0, .inl (cI, 12, .inl (fun j => iI ((K j : Nat) : Int)))), (p0, .inl (cI, 12, .inl (fun j => iI ((q j : Nat) : Int))))]) hP
    have hK1 := hK.sub (tys' := []) [] rfl
    refine rdK_call (vx_runSW (As := [.ref o0, .int (iI z0), .int (iI z1), .int (iI z2), .int (iI z3), .ref u0]) (rest := []) ⟨hx, hb, hml, hown, hts⟩ (mL_toneOf_x1 l hfl dC dI o0 a0 a1 q w hp0 hp1 hw hq hqd u0 z0 z1 z2 z3 hz0 hz1 hz2 hz3 b1) (vx_cwSW 6 hts gL_law_L_toneOf rfl rfl rfl hdL_toneOf ⟨(Nat.le_of_ble_eq_true rfl), (Nat.le_of_ble_eq_true rfl)⟩) (bY_preS hK1 hP1 (hG0.at hS) hN) rfl rfl hl.1 rfl (lv_room (Nat.le_of_ble_eq_true rfl)) dL_law_685 hf9) (fun H hz hk => ?_)
    have hP : va_P (dC, dI) vwCl ([(o0, .inr (0, [.long (pk a0), .long (pk a1), .long (pkn q w), .int (iI ((w : Nat) : Int))])), (u0, .inl (cJ, 1, .inr (.inl (g))))] ++ [(m0, .inr (1, [.int th, .ref t0, .ref k0, .ref p0, .int (iI ((w : Nat) : Int))])), (t0, .inl (cI, 24, .inl (fun j => iI ((tb a0 a1 j : Nat) : Int)))), (k0, .inl (cI, 12, .inl (fun j => iI ((K j : Nat) : Int)))), (p0, .inl (cI, 12, .inl (fun j => iI ((q j : Nat) : Int))))]) H := va_P_new hP hk
    have hS := va_S_new hS hz hk
    refine lv_istore (lv' := [(5, .int (iI 1)), (0, .ref b), (1, .ref o0), (2, .ref m0), (3, .ref u0), (4, .int (iI ((5 * n : Nat) : Int)))]) hx hb dL_law_688 hl (by decide) rfl (fun ls hl => ?_)
    refine lv_aload_n hx hb dL_law_690 rfl (lv_at hl 3 rfl) ?_
    refine lv_aload_n hx hb dL_law_691 rfl (lv_at hl 1 rfl) ?_
    refine lv_iload hx hb dL_law_692 (lv_at hl 5 rfl) ?_
    refine ib_const hx hb dL_law_694 ?_
    refine ib_add (z := (((5 * n) + 1 : Nat) : Int)) hx hb dL_law_695 (by omega) ?_
    refine st_i (y := iI ((5 * n + 1 : Nat) : Int)) (congrArg iI (by omega)) ?_
    refine va_sld (b := b) (L := L) (xs := xs) hx hb hX hbl hbA hS (iI_vp (i := 5 * n + 1) (by omega) (by omega)) dL_law_696 ?_
    refine st_i (y := iI z0) ((congrArg xs (iI_cl (by omega))).trans e0) ?_
    refine lv_aload_n hx hb dL_law_697 rfl (lv_at hl 1 rfl) ?_
    refine lv_iload hx hb dL_law_698 (lv_at hl 5 rfl) ?_
    refine ib_const hx hb dL_law_700 ?_
    refine ib_add (z := (((5 * n) + 2 : Nat) : Int)) hx hb dL_law_701 (by omega) ?_
    refine st_i (y := iI ((5 * n + 2 : Nat) : Int)) (congrArg iI (by omega)) ?_
    refine va_sld (b := b) (L := L) (xs := xs) hx hb hX hbl hbA hS (iI_vp (i := 5 * n + 2) (by omega) (by omega)) dL_law_702 ?_
    refine st_i (y := iI z1) ((congrArg xs (iI_cl (by omega))).trans e1) ?_
    refine lv_aload_n hx hb dL_law_703 rfl (lv_at hl 1 rfl) ?_
    refine lv_iload hx hb dL_law_704 (lv_at hl 5 rfl) ?_
    refine ib_const hx hb dL_law_706 ?_
    refine ib_add (z := (((5 * n) + 3 : Nat) : Int)) hx hb dL_law_707 (by omega) ?_
    refine st_i (y := iI ((5 * n + 3 : Nat) : Int)) (congrArg iI (by omega)) ?_
    refine va_sld (b := b) (L := L) (xs := xs) hx hb hX hbl hbA hS (iI_vp (i := 5 * n + 3) (by omega) (by omega)) dL_law_708 ?_
    refine st_i (y := iI z2) ((congrArg xs (iI_cl (by omega))).trans e2) ?_
    refine lv_aload_n hx hb dL_law_709 rfl (lv_at hl 1 rfl) ?_
    refine lv_iload hx hb dL_law_710 (lv_at hl 5 rfl) ?_
    refine ib_const hx hb dL_law_712 ?_
    refine ib_add (z := (((5 * n) + 4 : Nat) : Int)) hx hb dL_law_713 (by omega) ?_
    refine st_i (y := iI ((5 * n + 4 : Nat) : Int)) (congrArg iI (by omega)) ?_
    refine va_sld (b := b) (L := L) (xs := xs) hx hb hX hbl hbA hS (iI_vp (i := 5 * n + 4) (by omega) (by omega)) dL_law_714 ?_
    refine st_i (y := iI z3) ((congrArg xs (iI_cl (by omega))).trans e3) ?_
    have hP2 : va_P (dC, dI) vwCl [(m0, .inr (1, [.int th, .ref t0, .ref k0, .ref p0, .int (iI ((w : Nat) : Int))])), (t0, .inl (cI, 24, .inl (fun j => iI ((tb a0 a1 j : Nat) : Int)))), (k0, .inl (cI, 12, .inl (fun j => iI ((K j : Nat) : Int)))), (p0, .inl (cI, 12, .inl (fun j => iI ((q j : Nat) : Int))))] H := va_P_r (w1 := [(o0, .inr (0, [.long (pk a0), .long (pk a1), .long (pkn q w), .int (iI ((w : Nat) : Int))])), (u0, .inl (cJ, 1, .inr (.inl (g))))]) (w2 := [(m0, .inr (1, [.int th, .ref t0, .ref k0, .ref p0, .int (iI ((w : Nat) : Int))])), (t0, .inl (cI, 24, .inl (fun j => iI ((tb a0 a1 j : Nat) : Int)))), (k0, .inl (cI, 12, .inl (fun j => iI ((K j : Nat) : Int)))), (p0, .inl (cI, 12, .inl (fun j => iI ((q j : Nat) : Int))))]) hP
    have hK2 := hK.sub (tys' := [(cI, .int)]) [1] rfl
    have hf9 : cells + 1 + 0 ≤ room_1.cells ∧ slots + 6 + 0 ≤ room_1.slots := ⟨by show cells + 1 + 0 ≤ 1036; omega, by show slots + 6 + 0 ≤ 8286; omega⟩
    have hD2 : va_D (LA s) [(m0, .inr (1, [.int th, .ref t0, .ref k0, .ref p0, .int (iI ((w : Nat) : Int))])), (t0, .inl (cI, 24, .inl (fun j => iI ((tb a0 a1 j : Nat) : Int)))), (k0, .inl (cI, 12, .inl (fun j => iI ((K j : Nat) : Int)))), (p0, .inl (cI, 12, .inl (fun j => iI ((q j : Nat) : Int))))] := va_D_r (w1 := [(o0, .inr (0, [.long (pk a0), .long (pk a1), .long (pkn q w), .int (iI ((w : Nat) : Int))])), (u0, .inl (cJ, 1, .inr (.inl (g))))]) (w2 := [(m0, .inr (1, [.int th, .ref t0, .ref k0, .ref p0, .int (iI ((w : Nat) : Int))])), (t0, .inl (cI, 24, .inl (fun j => iI ((tb a0 a1 j : Nat) : Int)))), (k0, .inl (cI, 12, .inl (fun j => iI ((K j : Nat) : Int)))), (p0, .inl (cI, 12, .inl (fun j => iI ((q j : Nat) : Int))))]) hD
    refine wr_call (va_runV (As := [.int (iI z0), .int (iI z1), .int (iI z2), .int (iI z3)]) (rest := []) ⟨hx, hb, hml, hown, hts⟩ (mX1_toneOf_x1 l dC dI cI m0 t0 k0 p0 a0 a1 K q th w hp0.1 hp1.1 hw hq z0 z1 z2 z3 hz0 hz1 hz2 hz3 b1) (cwV 4 hts gL_law_X1_toneOf rfl rfl rfl hvX1_toneOf ⟨(Nat.le_of_ble_eq_true rfl), (Nat.le_of_ble_eq_true rfl)⟩) (bD_pre (ci := 1) (q0 := 0) hK2 hP2 hD2 rfl rfl rfl) rfl rfl hl.1 rfl (lv_room (Nat.le_of_ble_eq_true rfl)) dL_law_715 hf9) hS (fun q9 h => inW_A hD2 h) (fun H locs hPn hz hk hS => ?_)
    have hP : va_P (dC, dI) vwCl ([(o0, .inr (0, [.long (pk a0), .long (pk a1), .long (pkn q w), .int (iI ((w : Nat) : Int))])), (u0, .inl (cJ, 1, .inr (.inl (g))))] ++ [(m0, .inr (1, [.int (iI 1), .ref t0, .ref k0, .ref p0, .int (iI ((w : Nat) : Int))])), (t0, .inl (cI, 24, .inl (fun j => iI ((tb a0 a1 j : Nat) : Int)))), (k0, .inl (cI, 12, .inl (fun j => iI ((K j : Nat) : Int)))), (p0, .inl (cI, 12, .inl (fun j => iI ((q j : Nat) : Int))))]) H := wj_r (w1 := [(o0, .inr (0, [.long (pk a0), .long (pk a1), .long (pkn q w), .int (iI ((w : Nat) : Int))])), (u0, .inl (cJ, 1, .inr (.inl (g))))]) (w2 := [(m0, .inr (1, [.int th, .ref t0, .ref k0, .ref p0, .int (iI ((w : Nat) : Int))])), (t0, .inl (cI, 24, .inl (fun j => iI ((tb a0 a1 j : Nat) : Int)))), (k0, .inl (cI, 12, .inl (fun j => iI ((K j : Nat) : Int)))), (p0, .inl (cI, 12, .inl (fun j => iI ((q j : Nat) : Int))))]) (w2' := [(m0, .inr (1, [.int (iI 1), .ref t0, .ref k0, .ref p0, .int (iI ((w : Nat) : Int))])), (t0, .inl (cI, 24, .inl (fun j => iI ((tb a0 a1 j : Nat) : Int)))), (k0, .inl (cI, 12, .inl (fun j => iI ((K j : Nat) : Int)))), (p0, .inl (cI, 12, .inl (fun j => iI ((q j : Nat) : Int))))]) hP hD hPn hk
    have hD : va_D (LA s) ([(o0, .inr (0, [.long (pk a0), .long (pk a1), .long (pkn q w), .int (iI ((w : Nat) : Int))])), (u0, .inl (cJ, 1, .inr (.inl (g))))] ++ [(m0, .inr (1, [.int (iI 1), .ref t0, .ref k0, .ref p0, .int (iI ((w : Nat) : Int))])), (t0, .inl (cI, 24, .inl (fun j => iI ((tb a0 a1 j : Nat) : Int)))), (k0, .inl (cI, 12, .inl (fun j => iI ((K j : Nat) : Int)))), (p0, .inl (cI, 12, .inl (fun j => iI ((q j : Nat) : Int))))]) := va_D_same (w := ([(o0, .inr (0, [.long (pk a0), .long (pk a1), .long (pkn q w), .int (iI ((w : Nat) : Int))])), (u0, .inl (cJ, 1, .inr (.inl (g))))] ++ [(m0, .inr (1, [.int th, .ref t0, .ref k0, .ref p0, .int (iI ((w : Nat) : Int))])), (t0, .inl (cI, 24, .inl (fun j => iI ((tb a0 a1 j : Nat) : Int)))), (k0, .inl (cI, 12, .inl (fun j => iI ((K j : Nat) : Int)))), (p0, .inl (cI, 12, .inl (fun j => iI ((q j : Nat) : Int))))])) (Eq.trans (b := [o0, u0, m0, t0, k0, p0]) rfl rfl) hD
    refine va_forget hS.2.2 ?_
    have hS := va_S_nil hS
    refine lv_istore (lv' := [(6, .int (iI 0)), (5, .int (iI 1)), (0, .ref b), (1, .ref o0), (2, .ref m0), (3, .ref u0), (4, .int (iI ((5 * n : Nat) : Int)))]) hx hb dL_law_718 hl (by decide) rfl (fun ls hl => ?_)
    refine lv_aload_n hx hb dL_law_720 rfl (lv_at hl 4 rfl) ?_
    have hP2 : va_P (dC, dI) vwCl [(m0, .inr (1, [.int (iI 1), .ref t0, .ref k0, .ref p0, .int (iI ((w : Nat) : Int))])), (t0, .inl (cI, 24, .inl (fun j => iI ((tb a0 a1 j : Nat) : Int)))), (k0, .inl (cI, 12, .inl (fun j => iI ((K j : Nat) : Int)))), (p0, .inl (cI, 12, .inl (fun j => iI ((q j : Nat) : Int))))] H := va_P_r (w1 := [(o0, .inr (0, [.long (pk a0), .long (pk a1), .long (pkn q w), .int (iI ((w : Nat) : Int))])), (u0, .inl (cJ, 1, .inr (.inl (g))))]) (w2 := [(m0, .inr (1, [.int (iI 1), .ref t0, .ref k0, .ref p0, .int (iI ((w : Nat) : Int))])), (t0, .inl (cI, 24, .inl (fun j => iI ((tb a0 a1 j : Nat) : Int)))), (k0, .inl (cI, 12, .inl (fun j => iI ((K j : Nat) : Int)))), (p0, .inl (cI, 12, .inl (fun j => iI ((q j : Nat) : Int))))]) hP
    have hK2 := hK.sub (tys' := [(cI, .int)]) [1] rfl
    have hf9 : cells + 1 + 0 ≤ room_1.cells ∧ slots + 6 + 0 ≤ room_1.slots := ⟨by show cells + 1 + 0 ≤ 1036; omega, by show slots + 6 + 0 ≤ 8286; omega⟩
    refine rd_call (va_runV (As := []) (rest := []) ⟨hx, hb, hml, hown, hts⟩ (mX1_thrown l dC dI cI m0 t0 k0 p0 a0 a1 K q (iI 1) w hp0.1 hp1.1 hw hq) (cwV 0 hts gL_law_X1_thrown rfl rfl rfl hvX1_thrown ⟨(Nat.le_of_ble_eq_true rfl), (Nat.le_of_ble_eq_true rfl)⟩) (bW_pre (ci := 1) (q0 := 0) hK2 hP2 rfl rfl rfl) rfl rfl hl.1 rfl (lv_room (Nat.le_of_ble_eq_true rfl)) dL_law_721 hf9) ?_
    refine lv_iload hx hb dL_law_724 (lv_at hl 1 rfl) ?_
    refine ib_icmp_eq (tgt := 731) hx hb dL_law_726 (by decide) ⟨by omega, by omega⟩ ⟨by omega, by omega⟩ (fun c_726 => ?_) (fun c_726 => absurd c_726 (by decide))
    refine lv_iload hx hb dL_law_731 (lv_at hl 1 rfl) ?_
    refine ib_if_ne (tgt := 748) hx hb dL_law_733 (by decide) ⟨by omega, by omega⟩ (fun c_733 => ?_) (fun c_733 => absurd c_733 (by decide))
    refine lv_goto (tgt := 1833) hx hb dL_law_748 (by decide) ?_
    exact kk a0 a1 q K w (iI 1) (g) H ls ⟨hp0, hp1, hw, hq, hqd, hP, hD, hS⟩ (lv_sub hl [2, 3, 4, 5, 6] rfl)
  by_cases b2 : ((z0 = 0 ∨ z0 = 1) ∧ (0 ≤ z3 ∧ z3 ≤ 11)) ∧ ¬ (0 ≤ z1 ∧ z1 ≤ 3 ∧ 0 ≤ z2 ∧ z2 ≤ 11)
  · skip
    refine lv_aload_n hx hb dL_law_659 rfl (lv_at hl 1 rfl) ?_
    refine lv_aload_n hx hb dL_law_660 rfl (lv_at hl 0 rfl) ?_
    refine lv_iload hx hb dL_law_661 (lv_at hl 4 rfl) ?_
    refine ib_const hx hb dL_law_663 ?_
    refine ib_add (z := (((5 * n) + 1 : Nat) : Int)) hx hb dL_law_664 (by omega) ?_
    refine st_i (y := iI ((5 * n + 1 : Nat) : Int)) (congrArg iI (by omega)) ?_
    refine va_sld (b := b) (L := L) (xs := xs) hx hb hX hbl hbA hS (iI_vp (i := 5 * n + 1) (by omega) (by omega)) dL_law_665 ?_
    refine st_i (y := iI z0) ((congrArg xs (iI_cl (by omega))).trans e0) ?_
    refine lv_aload_n hx hb dL_law_666 rfl (lv_at hl 0 rfl) ?_
    refine lv_iload hx hb dL_law_667 (lv_at hl 4 rfl) ?_
    refine ib_const hx hb dL_law_669 ?_
    refine ib_add (z := (((5 * n) + 2 : Nat) : Int)) hx hb dL_law_670 (by omega) ?_
    refine st_i (y := iI ((5 * n + 2 : Nat) : Int)) (congrArg iI (by omega)) ?_
    refine va_sld (b := b) (L := L) (xs := xs) hx hb hX hbl hbA hS (iI_vp (i := 5 * n + 2) (by omega) (by omega)) dL_law_671 ?_
    refine st_i (y := iI z1) ((congrArg xs (iI_cl (by omega))).trans e1) ?_
    refine lv_aload_n hx hb dL_law_672 rfl (lv_at hl 0 rfl) ?_
    refine lv_iload hx hb dL_law_673 (lv_at hl 4 rfl) ?_
    refine ib_const hx hb dL_law_675 ?_
    refine ib_add (z := (((5 * n) + 3 : Nat) : Int)) hx hb dL_law_676 (by omega) ?_
    refine st_i (y := iI ((5 * n + 3 : Nat) : Int)) (congrArg iI (by omega)) ?_
    refine va_sld (b := b) (L := L) (xs := xs) hx hb hX hbl hbA hS (iI_vp (i := 5 * n + 3) (by omega) (by omega)) dL_law_677 ?_
    refine st_i (y := iI z2) ((congrArg xs (iI_cl (by omega))).trans e2) ?_
    refine lv_aload_n hx hb dL_law_678 rfl (lv_at hl 0 rfl) ?_
    refine lv_iload hx hb dL_law_679 (lv_at hl 4 rfl) ?_
    refine ib_const hx hb dL_law_681 ?_
    refine ib_add (z := (((5 * n) + 4 : Nat) : Int)) hx hb dL_law_682 (by omega) ?_
    refine st_i (y := iI ((5 * n + 4 : Nat) : Int)) (congrArg iI (by omega)) ?_
    refine va_sld (b := b) (L := L) (xs := xs) hx hb hX hbl hbA hS (iI_vp (i := 5 * n + 4) (by omega) (by omega)) dL_law_683 ?_
    refine st_i (y := iI z3) ((congrArg xs (iI_cl (by omega))).trans e3) ?_
    refine lv_aload_n hx hb dL_law_684 rfl (lv_at hl 3 rfl) ?_
    have hf9 : cells + 1 ≤ room_1.cells ∧ slots + 6 ≤ room_1.slots := ⟨by show cells + 1 ≤ 1036; omega, by show slots + 6 ≤ 8286; omega⟩
    have hP1 : va_P (dC, dI) vwCl [(o0, .inr (0, [.long (pk a0), .long (pk a1), .long (pkn q w), .int (iI ((w : Nat) : Int))]))] H := va_P_l (w1 := [(o0, .inr (0, [.long (pk a0), .long (pk a1), .long (pkn q w), .int (iI ((w : Nat) : Int))]))]) (w2 := [(u0, .inl (cJ, 1, .inr (.inl (g)))), (m0, .inr (1, [.int th, .ref t0, .ref k0, .ref p0, .int (iI ((w : Nat) : Int))])), (t0, .inl (cI, 24, .inl (fun j => iI ((tb a0 a1 j : Nat) : Int)))), (k0, .inl (cI, 12, .inl (fun j => iI ((K j : Nat) : Int)))), (p0, .inl (cI, 12, .inl (fun j => iI ((q j : Nat) : Int))))]) hP
    have hK1 := hK.sub (tys' := []) [] rfl
    refine rdK_call (vx_runSW (As := [.ref o0, .int (iI z0), .int (iI z1), .int (iI z2), .int (iI z3), .ref u0]) (rest := []) ⟨hx, hb, hml, hown, hts⟩ (mL_toneOf_x2 l hfl dC dI o0 a0 a1 q w hp0 hp1 hw hq hqd u0 z0 z1 z2 z3 hz0 hz1 hz2 hz3 b2) (vx_cwSW 6 hts gL_law_L_toneOf rfl rfl rfl hdL_toneOf ⟨(Nat.le_of_ble_eq_true rfl), (Nat.le_of_ble_eq_true rfl)⟩) (bY_preS hK1 hP1 (hG0.at hS) hN) rfl rfl hl.1 rfl (lv_room (Nat.le_of_ble_eq_true rfl)) dL_law_685 hf9) (fun H hz hk => ?_)
    have hP : va_P (dC, dI) vwCl ([(o0, .inr (0, [.long (pk a0), .long (pk a1), .long (pkn q w), .int (iI ((w : Nat) : Int))])), (u0, .inl (cJ, 1, .inr (.inl (g))))] ++ [(m0, .inr (1, [.int th, .ref t0, .ref k0, .ref p0, .int (iI ((w : Nat) : Int))])), (t0, .inl (cI, 24, .inl (fun j => iI ((tb a0 a1 j : Nat) : Int)))), (k0, .inl (cI, 12, .inl (fun j => iI ((K j : Nat) : Int)))), (p0, .inl (cI, 12, .inl (fun j => iI ((q j : Nat) : Int))))]) H := va_P_new hP hk
    have hS := va_S_new hS hz hk
    refine lv_istore (lv' := [(5, .int (iI 2)), (0, .ref b), (1, .ref o0), (2, .ref m0), (3, .ref u0), (4, .int (iI ((5 * n : Nat) : Int)))]) hx hb dL_law_688 hl (by decide) rfl (fun ls hl => ?_)
    refine lv_aload_n hx hb dL_law_690 rfl (lv_at hl 3 rfl) ?_
    refine lv_aload_n hx hb dL_law_691 rfl (lv_at hl 1 rfl) ?_
    refine lv_iload hx hb dL_law_692 (lv_at hl 5 rfl) ?_
    refine ib_const hx hb dL_law_694 ?_
    refine ib_add (z := (((5 * n) + 1 : Nat) : Int)) hx hb dL_law_695 (by omega) ?_
    refine st_i (y := iI ((5 * n + 1 : Nat) : Int)) (congrArg iI (by omega)) ?_
    refine va_sld (b := b) (L := L) (xs := xs) hx hb hX hbl hbA hS (iI_vp (i := 5 * n + 1) (by omega) (by omega)) dL_law_696 ?_
    refine st_i (y := iI z0) ((congrArg xs (iI_cl (by omega))).trans e0) ?_
    refine lv_aload_n hx hb dL_law_697 rfl (lv_at hl 1 rfl) ?_
    refine lv_iload hx hb dL_law_698 (lv_at hl 5 rfl) ?_
    refine ib_const hx hb dL_law_700 ?_
    refine ib_add (z := (((5 * n) + 2 : Nat) : Int)) hx hb dL_law_701 (by omega) ?_
    refine st_i (y := iI ((5 * n + 2 : Nat) : Int)) (congrArg iI (by omega)) ?_
    refine va_sld (b := b) (L := L) (xs := xs) hx hb hX hbl hbA hS (iI_vp (i := 5 * n + 2) (by omega) (by omega)) dL_law_702 ?_
    refine st_i (y := iI z1) ((congrArg xs (iI_cl (by omega))).trans e1) ?_
    refine lv_aload_n hx hb dL_law_703 rfl (lv_at hl 1 rfl) ?_
    refine lv_iload hx hb dL_law_704 (lv_at hl 5 rfl) ?_
    refine ib_const hx hb dL_law_706 ?_
    refine ib_add (z := (((5 * n) + 3 : Nat) : Int)) hx hb dL_law_707 (by omega) ?_
    refine st_i (y := iI ((5 * n + 3 : Nat) : Int)) (congrArg iI (by omega)) ?_
    refine va_sld (b := b) (L := L) (xs := xs) hx hb hX hbl hbA hS (iI_vp (i := 5 * n + 3) (by omega) (by omega)) dL_law_708 ?_
    refine st_i (y := iI z2) ((congrArg xs (iI_cl (by omega))).trans e2) ?_
    refine lv_aload_n hx hb dL_law_709 rfl (lv_at hl 1 rfl) ?_
    refine lv_iload hx hb dL_law_710 (lv_at hl 5 rfl) ?_
    refine ib_const hx hb dL_law_712 ?_
    refine ib_add (z := (((5 * n) + 4 : Nat) : Int)) hx hb dL_law_713 (by omega) ?_
    refine st_i (y := iI ((5 * n + 4 : Nat) : Int)) (congrArg iI (by omega)) ?_
    refine va_sld (b := b) (L := L) (xs := xs) hx hb hX hbl hbA hS (iI_vp (i := 5 * n + 4) (by omega) (by omega)) dL_law_714 ?_
    refine st_i (y := iI z3) ((congrArg xs (iI_cl (by omega))).trans e3) ?_
    have hP2 : va_P (dC, dI) vwCl [(m0, .inr (1, [.int th, .ref t0, .ref k0, .ref p0, .int (iI ((w : Nat) : Int))])), (t0, .inl (cI, 24, .inl (fun j => iI ((tb a0 a1 j : Nat) : Int)))), (k0, .inl (cI, 12, .inl (fun j => iI ((K j : Nat) : Int)))), (p0, .inl (cI, 12, .inl (fun j => iI ((q j : Nat) : Int))))] H := va_P_r (w1 := [(o0, .inr (0, [.long (pk a0), .long (pk a1), .long (pkn q w), .int (iI ((w : Nat) : Int))])), (u0, .inl (cJ, 1, .inr (.inl (g))))]) (w2 := [(m0, .inr (1, [.int th, .ref t0, .ref k0, .ref p0, .int (iI ((w : Nat) : Int))])), (t0, .inl (cI, 24, .inl (fun j => iI ((tb a0 a1 j : Nat) : Int)))), (k0, .inl (cI, 12, .inl (fun j => iI ((K j : Nat) : Int)))), (p0, .inl (cI, 12, .inl (fun j => iI ((q j : Nat) : Int))))]) hP
    have hK2 := hK.sub (tys' := [(cI, .int)]) [1] rfl
    have hf9 : cells + 1 + 0 ≤ room_1.cells ∧ slots + 6 + 0 ≤ room_1.slots := ⟨by show cells + 1 + 0 ≤ 1036; omega, by show slots + 6 + 0 ≤ 8286; omega⟩
    have hD2 : va_D (LA s) [(m0, .inr (1, [.int th, .ref t0, .ref k0, .ref p0, .int (iI ((w : Nat) : Int))])), (t0, .inl (cI, 24, .inl (fun j => iI ((tb a0 a1 j : Nat) : Int)))), (k0, .inl (cI, 12, .inl (fun j => iI ((K j : Nat) : Int)))), (p0, .inl (cI, 12, .inl (fun j => iI ((q j : Nat) : Int))))] := va_D_r (w1 := [(o0, .inr (0, [.long (pk a0), .long (pk a1), .long (pkn q w), .int (iI ((w : Nat) : Int))])), (u0, .inl (cJ, 1, .inr (.inl (g))))]) (w2 := [(m0, .inr (1, [.int th, .ref t0, .ref k0, .ref p0, .int (iI ((w : Nat) : Int))])), (t0, .inl (cI, 24, .inl (fun j => iI ((tb a0 a1 j : Nat) : Int)))), (k0, .inl (cI, 12, .inl (fun j => iI ((K j : Nat) : Int)))), (p0, .inl (cI, 12, .inl (fun j => iI ((q j : Nat) : Int))))]) hD
    refine wr_call (va_runV (As := [.int (iI z0), .int (iI z1), .int (iI z2), .int (iI z3)]) (rest := []) ⟨hx, hb, hml, hown, hts⟩ (mX1_toneOf_x2 l dC dI cI m0 t0 k0 p0 a0 a1 K q th w hp0.1 hp1.1 hw hq z0 z1 z2 z3 hz0 hz1 hz2 hz3 b2) (cwV 4 hts gL_law_X1_toneOf rfl rfl rfl hvX1_toneOf ⟨(Nat.le_of_ble_eq_true rfl), (Nat.le_of_ble_eq_true rfl)⟩) (bD_pre (ci := 1) (q0 := 0) hK2 hP2 hD2 rfl rfl rfl) rfl rfl hl.1 rfl (lv_room (Nat.le_of_ble_eq_true rfl)) dL_law_715 hf9) hS (fun q9 h => inW_A hD2 h) (fun H locs hPn hz hk hS => ?_)
    have hP : va_P (dC, dI) vwCl ([(o0, .inr (0, [.long (pk a0), .long (pk a1), .long (pkn q w), .int (iI ((w : Nat) : Int))])), (u0, .inl (cJ, 1, .inr (.inl (g))))] ++ [(m0, .inr (1, [.int (iI 2), .ref t0, .ref k0, .ref p0, .int (iI ((w : Nat) : Int))])), (t0, .inl (cI, 24, .inl (fun j => iI ((tb a0 a1 j : Nat) : Int)))), (k0, .inl (cI, 12, .inl (fun j => iI ((K j : Nat) : Int)))), (p0, .inl (cI, 12, .inl (fun j => iI ((q j : Nat) : Int))))]) H := wj_r (w1 := [(o0, .inr (0, [.long (pk a0), .long (pk a1), .long (pkn q w), .int (iI ((w : Nat) : Int))])), (u0, .inl (cJ, 1, .inr (.inl (g))))]) (w2 := [(m0, .inr (1, [.int th, .ref t0, .ref k0, .ref p0, .int (iI ((w : Nat) : Int))])), (t0, .inl (cI, 24, .inl (fun j => iI ((tb a0 a1 j : Nat) : Int)))), (k0, .inl (cI, 12, .inl (fun j => iI ((K j : Nat) : Int)))), (p0, .inl (cI, 12, .inl (fun j => iI ((q j : Nat) : Int))))]) (w2' := [(m0, .inr (1, [.int (iI 2), .ref t0, .ref k0, .ref p0, .int (iI ((w : Nat) : Int))])), (t0, .inl (cI, 24, .inl (fun j => iI ((tb a0 a1 j : Nat) : Int)))), (k0, .inl (cI, 12, .inl (fun j => iI ((K j : Nat) : Int)))), (p0, .inl (cI, 12, .inl (fun j => iI ((q j : Nat) : Int))))]) hP hD hPn hk
    have hD : va_D (LA s) ([(o0, .inr (0, [.long (pk a0), .long (pk a1), .long (pkn q w), .int (iI ((w : Nat) : Int))])), (u0, .inl (cJ, 1, .inr (.inl (g))))] ++ [(m0, .inr (1, [.int (iI 2), .ref t0, .ref k0, .ref p0, .int (iI ((w : Nat) : Int))])), (t0, .inl (cI, 24, .inl (fun j => iI ((tb a0 a1 j : Nat) : Int)))), (k0, .inl (cI, 12, .inl (fun j => iI ((K j : Nat) : Int)))), (p0, .inl (cI, 12, .inl (fun j => iI ((q j : Nat) : Int))))]) := va_D_same (w := ([(o0, .inr (0, [.long (pk a0), .long (pk a1), .long (pkn q w), .int (iI ((w : Nat) : Int))])), (u0, .inl (cJ, 1, .inr (.inl (g))))] ++ [(m0, .inr (1, [.int th, .ref t0, .ref k0, .ref p0, .int (iI ((w : Nat) : Int))])), (t0, .inl (cI, 24, .inl (fun j => iI ((tb a0 a1 j : Nat) : Int)))), (k0, .inl (cI, 12, .inl (fun j => iI ((K j : Nat) : Int)))), (p0, .inl (cI, 12, .inl (fun j => iI ((q j : Nat) : Int))))])) (Eq.trans (b := [o0, u0, m0, t0, k0, p0]) rfl rfl) hD
    refine va_forget hS.2.2 ?_
    have hS := va_S_nil hS
    refine lv_istore (lv' := [(6, .int (iI 0)), (5, .int (iI 2)), (0, .ref b), (1, .ref o0), (2, .ref m0), (3, .ref u0), (4, .int (iI ((5 * n : Nat) : Int)))]) hx hb dL_law_718 hl (by decide) rfl (fun ls hl => ?_)
    refine lv_aload_n hx hb dL_law_720 rfl (lv_at hl 4 rfl) ?_
    have hP2 : va_P (dC, dI) vwCl [(m0, .inr (1, [.int (iI 2), .ref t0, .ref k0, .ref p0, .int (iI ((w : Nat) : Int))])), (t0, .inl (cI, 24, .inl (fun j => iI ((tb a0 a1 j : Nat) : Int)))), (k0, .inl (cI, 12, .inl (fun j => iI ((K j : Nat) : Int)))), (p0, .inl (cI, 12, .inl (fun j => iI ((q j : Nat) : Int))))] H := va_P_r (w1 := [(o0, .inr (0, [.long (pk a0), .long (pk a1), .long (pkn q w), .int (iI ((w : Nat) : Int))])), (u0, .inl (cJ, 1, .inr (.inl (g))))]) (w2 := [(m0, .inr (1, [.int (iI 2), .ref t0, .ref k0, .ref p0, .int (iI ((w : Nat) : Int))])), (t0, .inl (cI, 24, .inl (fun j => iI ((tb a0 a1 j : Nat) : Int)))), (k0, .inl (cI, 12, .inl (fun j => iI ((K j : Nat) : Int)))), (p0, .inl (cI, 12, .inl (fun j => iI ((q j : Nat) : Int))))]) hP
    have hK2 := hK.sub (tys' := [(cI, .int)]) [1] rfl
    have hf9 : cells + 1 + 0 ≤ room_1.cells ∧ slots + 6 + 0 ≤ room_1.slots := ⟨by show cells + 1 + 0 ≤ 1036; omega, by show slots + 6 + 0 ≤ 8286; omega⟩
    refine rd_call (va_runV (As := []) (rest := []) ⟨hx, hb, hml, hown, hts⟩ (mX1_thrown l dC dI cI m0 t0 k0 p0 a0 a1 K q (iI 2) w hp0.1 hp1.1 hw hq) (cwV 0 hts gL_law_X1_thrown rfl rfl rfl hvX1_thrown ⟨(Nat.le_of_ble_eq_true rfl), (Nat.le_of_ble_eq_true rfl)⟩) (bW_pre (ci := 1) (q0 := 0) hK2 hP2 rfl rfl rfl) rfl rfl hl.1 rfl (lv_room (Nat.le_of_ble_eq_true rfl)) dL_law_721 hf9) ?_
    refine lv_iload hx hb dL_law_724 (lv_at hl 1 rfl) ?_
    refine ib_icmp_eq (tgt := 731) hx hb dL_law_726 (by decide) ⟨by omega, by omega⟩ ⟨by omega, by omega⟩ (fun c_726 => ?_) (fun c_726 => absurd c_726 (by decide))
    refine lv_iload hx hb dL_law_731 (lv_at hl 1 rfl) ?_
    refine ib_if_ne (tgt := 748) hx hb dL_law_733 (by decide) ⟨by omega, by omega⟩ (fun c_733 => ?_) (fun c_733 => absurd c_733 (by decide))
    refine lv_goto (tgt := 1833) hx hb dL_law_748 (by decide) ?_
    exact kk a0 a1 q K w (iI 2) (g) H ls ⟨hp0, hp1, hw, hq, hqd, hP, hD, hS⟩ (lv_sub hl [2, 3, 4, 5, 6] rfl)
  obtain ⟨r, hn0, rfl⟩ := nat_of (z := z0) (k := 4095) (by omega)
  obtain ⟨k, hn1, rfl⟩ := nat_of (z := z1) (k := 4095) (by omega)
  obtain ⟨i, hn2, rfl⟩ := nat_of (z := z2) (k := 4095) (by omega)
  obtain ⟨j, hn3, rfl⟩ := nat_of (z := z3) (k := 4095) (by omega)
  refine lv_aload_n hx hb dL_law_659 rfl (lv_at hl 1 rfl) ?_
  refine lv_aload_n hx hb dL_law_660 rfl (lv_at hl 0 rfl) ?_
  refine lv_iload hx hb dL_law_661 (lv_at hl 4 rfl) ?_
  refine ib_const hx hb dL_law_663 ?_
  refine ib_add (z := (((5 * n) + 1 : Nat) : Int)) hx hb dL_law_664 (by omega) ?_
  refine st_i (y := iI ((5 * n + 1 : Nat) : Int)) (congrArg iI (by omega)) ?_
  refine va_sld (b := b) (L := L) (xs := xs) hx hb hX hbl hbA hS (iI_vp (i := 5 * n + 1) (by omega) (by omega)) dL_law_665 ?_
  refine st_i (y := iI ((r : Nat) : Int)) ((congrArg xs (iI_cl (by omega))).trans e0) ?_
  refine lv_aload_n hx hb dL_law_666 rfl (lv_at hl 0 rfl) ?_
  refine lv_iload hx hb dL_law_667 (lv_at hl 4 rfl) ?_
  refine ib_const hx hb dL_law_669 ?_
  refine ib_add (z := (((5 * n) + 2 : Nat) : Int)) hx hb dL_law_670 (by omega) ?_
  refine st_i (y := iI ((5 * n + 2 : Nat) : Int)) (congrArg iI (by omega)) ?_
  refine va_sld (b := b) (L := L) (xs := xs) hx hb hX hbl hbA hS (iI_vp (i := 5 * n + 2) (by omega) (by omega)) dL_law_671 ?_
  refine st_i (y := iI ((k : Nat) : Int)) ((congrArg xs (iI_cl (by omega))).trans e1) ?_
  refine lv_aload_n hx hb dL_law_672 rfl (lv_at hl 0 rfl) ?_
  refine lv_iload hx hb dL_law_673 (lv_at hl 4 rfl) ?_
  refine ib_const hx hb dL_law_675 ?_
  refine ib_add (z := (((5 * n) + 3 : Nat) : Int)) hx hb dL_law_676 (by omega) ?_
  refine st_i (y := iI ((5 * n + 3 : Nat) : Int)) (congrArg iI (by omega)) ?_
  refine va_sld (b := b) (L := L) (xs := xs) hx hb hX hbl hbA hS (iI_vp (i := 5 * n + 3) (by omega) (by omega)) dL_law_677 ?_
  refine st_i (y := iI ((i : Nat) : Int)) ((congrArg xs (iI_cl (by omega))).trans e2) ?_
  refine lv_aload_n hx hb dL_law_678 rfl (lv_at hl 0 rfl) ?_
  refine lv_iload hx hb dL_law_679 (lv_at hl 4 rfl) ?_
  refine ib_const hx hb dL_law_681 ?_
  refine ib_add (z := (((5 * n) + 4 : Nat) : Int)) hx hb dL_law_682 (by omega) ?_
  refine st_i (y := iI ((5 * n + 4 : Nat) : Int)) (congrArg iI (by omega)) ?_
  refine va_sld (b := b) (L := L) (xs := xs) hx hb hX hbl hbA hS (iI_vp (i := 5 * n + 4) (by omega) (by omega)) dL_law_683 ?_
  refine st_i (y := iI ((j : Nat) : Int)) ((congrArg xs (iI_cl (by omega))).trans e3) ?_
  refine lv_aload_n hx hb dL_law_684 rfl (lv_at hl 3 rfl) ?_
  have hf9 : cells + 0 ≤ room_1.cells ∧ slots + 0 ≤ room_1.slots := ⟨by show cells + 0 ≤ 1036; omega, by show slots + 0 ≤ 8286; omega⟩
  have hP1 : va_P (dC, dI) vwCl [(o0, .inr (0, [.long (pk a0), .long (pk a1), .long (pkn q w), .int (iI ((w : Nat) : Int))])), (u0, .inl (cJ, 1, .inr (.inl (g))))] H := va_P_l (w1 := [(o0, .inr (0, [.long (pk a0), .long (pk a1), .long (pkn q w), .int (iI ((w : Nat) : Int))])), (u0, .inl (cJ, 1, .inr (.inl (g))))]) (w2 := [(m0, .inr (1, [.int th, .ref t0, .ref k0, .ref p0, .int (iI ((w : Nat) : Int))])), (t0, .inl (cI, 24, .inl (fun j => iI ((tb a0 a1 j : Nat) : Int)))), (k0, .inl (cI, 12, .inl (fun j => iI ((K j : Nat) : Int)))), (p0, .inl (cI, 12, .inl (fun j => iI ((q j : Nat) : Int))))]) hP
  have hD1 : va_D (LA s) [(o0, .inr (0, [.long (pk a0), .long (pk a1), .long (pkn q w), .int (iI ((w : Nat) : Int))])), (u0, .inl (cJ, 1, .inr (.inl (g))))] := va_D_l (w1 := [(o0, .inr (0, [.long (pk a0), .long (pk a1), .long (pkn q w), .int (iI ((w : Nat) : Int))])), (u0, .inl (cJ, 1, .inr (.inl (g))))]) (w2 := [(m0, .inr (1, [.int th, .ref t0, .ref k0, .ref p0, .int (iI ((w : Nat) : Int))])), (t0, .inl (cI, 24, .inl (fun j => iI ((tb a0 a1 j : Nat) : Int)))), (k0, .inl (cI, 12, .inl (fun j => iI ((K j : Nat) : Int)))), (p0, .inl (cI, 12, .inl (fun j => iI ((q j : Nat) : Int))))]) hD
  have hK1 := hK.sub (tys' := [(cJ, .long)]) [0] rfl
  refine wr_call (vx_runSW (As := [.ref o0, .int (iI ((r : Nat) : Int)), .int (iI ((k : Nat) : Int)), .int (iI ((i : Nat) : Int)), .int (iI ((j : Nat) : Int)), .ref u0]) (rest := []) ⟨hx, hb, hml, hown, hts⟩ (mL_toneOf_ok l dC dI cJ o0 u0 a0 a1 q w hp0 hp1 hw hq hqd g r k i j (by omega) (by omega) (by omega) (by omega)) (vx_cwSW 6 hts gL_law_L_toneOf rfl rfl rfl hdL_toneOf ⟨(Nat.le_of_ble_eq_true rfl), (Nat.le_of_ble_eq_true rfl)⟩) (bD_preS hK1 hP1 hD1) rfl rfl hl.1 rfl (lv_room (Nat.le_of_ble_eq_true rfl)) dL_law_685 hf9) hS (fun q9 h => inW_A hD1 h) (fun H locs hPn hz hk hS => ?_)
  have hP : va_P (dC, dI) vwCl ([(o0, .inr (0, [.long (pk a0), .long (pk a1), .long (pkn q w), .int (iI ((w : Nat) : Int))])), (u0, .inl (cJ, 1, .inr (.inl (fun _ => (iI ((fm (rw_ r a0 a1) (12 * k + i) j : Nat) : Int)).toInt64))))] ++ [(m0, .inr (1, [.int th, .ref t0, .ref k0, .ref p0, .int (iI ((w : Nat) : Int))])), (t0, .inl (cI, 24, .inl (fun j => iI ((tb a0 a1 j : Nat) : Int)))), (k0, .inl (cI, 12, .inl (fun j => iI ((K j : Nat) : Int)))), (p0, .inl (cI, 12, .inl (fun j => iI ((q j : Nat) : Int))))]) H := wj_l (w1 := [(o0, .inr (0, [.long (pk a0), .long (pk a1), .long (pkn q w), .int (iI ((w : Nat) : Int))])), (u0, .inl (cJ, 1, .inr (.inl (g))))]) (w2 := [(m0, .inr (1, [.int th, .ref t0, .ref k0, .ref p0, .int (iI ((w : Nat) : Int))])), (t0, .inl (cI, 24, .inl (fun j => iI ((tb a0 a1 j : Nat) : Int)))), (k0, .inl (cI, 12, .inl (fun j => iI ((K j : Nat) : Int)))), (p0, .inl (cI, 12, .inl (fun j => iI ((q j : Nat) : Int))))]) (w1' := [(o0, .inr (0, [.long (pk a0), .long (pk a1), .long (pkn q w), .int (iI ((w : Nat) : Int))])), (u0, .inl (cJ, 1, .inr (.inl (fun _ => (iI ((fm (rw_ r a0 a1) (12 * k + i) j : Nat) : Int)).toInt64))))]) hP hD hPn hk
  have hD : va_D (LA s) ([(o0, .inr (0, [.long (pk a0), .long (pk a1), .long (pkn q w), .int (iI ((w : Nat) : Int))])), (u0, .inl (cJ, 1, .inr (.inl (fun _ => (iI ((fm (rw_ r a0 a1) (12 * k + i) j : Nat) : Int)).toInt64))))] ++ [(m0, .inr (1, [.int th, .ref t0, .ref k0, .ref p0, .int (iI ((w : Nat) : Int))])), (t0, .inl (cI, 24, .inl (fun j => iI ((tb a0 a1 j : Nat) : Int)))), (k0, .inl (cI, 12, .inl (fun j => iI ((K j : Nat) : Int)))), (p0, .inl (cI, 12, .inl (fun j => iI ((q j : Nat) : Int))))]) := va_D_same (w := ([(o0, .inr (0, [.long (pk a0), .long (pk a1), .long (pkn q w), .int (iI ((w : Nat) : Int))])), (u0, .inl (cJ, 1, .inr (.inl (g))))] ++ [(m0, .inr (1, [.int th, .ref t0, .ref k0, .ref p0, .int (iI ((w : Nat) : Int))])), (t0, .inl (cI, 24, .inl (fun j => iI ((tb a0 a1 j : Nat) : Int)))), (k0, .inl (cI, 12, .inl (fun j => iI ((K j : Nat) : Int)))), (p0, .inl (cI, 12, .inl (fun j => iI ((q j : Nat) : Int))))])) (Eq.trans (b := [o0, u0, m0, t0, k0, p0]) rfl rfl) hD
  refine va_forget hS.2.2 ?_
  have hS := va_S_nil hS
  refine W.widen (k := cells + 1) (n := slots + 6) (by omega) (by omega) ?_
  refine lv_istore (lv' := [(5, .int (iI 0)), (0, .ref b), (1, .ref o0), (2, .ref m0), (3, .ref u0), (4, .int (iI ((5 * n : Nat) : Int)))]) hx hb dL_law_688 hl (by decide) rfl (fun ls hl => ?_)
  refine lv_aload_n hx hb dL_law_690 rfl (lv_at hl 3 rfl) ?_
  refine lv_aload_n hx hb dL_law_691 rfl (lv_at hl 1 rfl) ?_
  refine lv_iload hx hb dL_law_692 (lv_at hl 5 rfl) ?_
  refine ib_const hx hb dL_law_694 ?_
  refine ib_add (z := (((5 * n) + 1 : Nat) : Int)) hx hb dL_law_695 (by omega) ?_
  refine st_i (y := iI ((5 * n + 1 : Nat) : Int)) (congrArg iI (by omega)) ?_
  refine va_sld (b := b) (L := L) (xs := xs) hx hb hX hbl hbA hS (iI_vp (i := 5 * n + 1) (by omega) (by omega)) dL_law_696 ?_
  refine st_i (y := iI ((r : Nat) : Int)) ((congrArg xs (iI_cl (by omega))).trans e0) ?_
  refine lv_aload_n hx hb dL_law_697 rfl (lv_at hl 1 rfl) ?_
  refine lv_iload hx hb dL_law_698 (lv_at hl 5 rfl) ?_
  refine ib_const hx hb dL_law_700 ?_
  refine ib_add (z := (((5 * n) + 2 : Nat) : Int)) hx hb dL_law_701 (by omega) ?_
  refine st_i (y := iI ((5 * n + 2 : Nat) : Int)) (congrArg iI (by omega)) ?_
  refine va_sld (b := b) (L := L) (xs := xs) hx hb hX hbl hbA hS (iI_vp (i := 5 * n + 2) (by omega) (by omega)) dL_law_702 ?_
  refine st_i (y := iI ((k : Nat) : Int)) ((congrArg xs (iI_cl (by omega))).trans e1) ?_
  refine lv_aload_n hx hb dL_law_703 rfl (lv_at hl 1 rfl) ?_
  refine lv_iload hx hb dL_law_704 (lv_at hl 5 rfl) ?_
  refine ib_const hx hb dL_law_706 ?_
  refine ib_add (z := (((5 * n) + 3 : Nat) : Int)) hx hb dL_law_707 (by omega) ?_
  refine st_i (y := iI ((5 * n + 3 : Nat) : Int)) (congrArg iI (by omega)) ?_
  refine va_sld (b := b) (L := L) (xs := xs) hx hb hX hbl hbA hS (iI_vp (i := 5 * n + 3) (by omega) (by omega)) dL_law_708 ?_
  refine st_i (y := iI ((i : Nat) : Int)) ((congrArg xs (iI_cl (by omega))).trans e2) ?_
  refine lv_aload_n hx hb dL_law_709 rfl (lv_at hl 1 rfl) ?_
  refine lv_iload hx hb dL_law_710 (lv_at hl 5 rfl) ?_
  refine ib_const hx hb dL_law_712 ?_
  refine ib_add (z := (((5 * n) + 4 : Nat) : Int)) hx hb dL_law_713 (by omega) ?_
  refine st_i (y := iI ((5 * n + 4 : Nat) : Int)) (congrArg iI (by omega)) ?_
  refine va_sld (b := b) (L := L) (xs := xs) hx hb hX hbl hbA hS (iI_vp (i := 5 * n + 4) (by omega) (by omega)) dL_law_714 ?_
  refine st_i (y := iI ((j : Nat) : Int)) ((congrArg xs (iI_cl (by omega))).trans e3) ?_
  have hP2 : va_P (dC, dI) vwCl [(m0, .inr (1, [.int th, .ref t0, .ref k0, .ref p0, .int (iI ((w : Nat) : Int))])), (t0, .inl (cI, 24, .inl (fun j => iI ((tb a0 a1 j : Nat) : Int)))), (k0, .inl (cI, 12, .inl (fun j => iI ((K j : Nat) : Int)))), (p0, .inl (cI, 12, .inl (fun j => iI ((q j : Nat) : Int))))] H := va_P_r (w1 := [(o0, .inr (0, [.long (pk a0), .long (pk a1), .long (pkn q w), .int (iI ((w : Nat) : Int))])), (u0, .inl (cJ, 1, .inr (.inl (fun _ => (iI ((fm (rw_ r a0 a1) (12 * k + i) j : Nat) : Int)).toInt64))))]) (w2 := [(m0, .inr (1, [.int th, .ref t0, .ref k0, .ref p0, .int (iI ((w : Nat) : Int))])), (t0, .inl (cI, 24, .inl (fun j => iI ((tb a0 a1 j : Nat) : Int)))), (k0, .inl (cI, 12, .inl (fun j => iI ((K j : Nat) : Int)))), (p0, .inl (cI, 12, .inl (fun j => iI ((q j : Nat) : Int))))]) hP
  have hK2 := hK.sub (tys' := [(cI, .int)]) [1] rfl
  have hf9 : cells + 1 + 0 ≤ room_1.cells ∧ slots + 6 + 0 ≤ room_1.slots := ⟨by show cells + 1 + 0 ≤ 1036; omega, by show slots + 6 + 0 ≤ 8286; omega⟩
  have hD2 : va_D (LA s) [(m0, .inr (1, [.int th, .ref t0, .ref k0, .ref p0, .int (iI ((w : Nat) : Int))])), (t0, .inl (cI, 24, .inl (fun j => iI ((tb a0 a1 j : Nat) : Int)))), (k0, .inl (cI, 12, .inl (fun j => iI ((K j : Nat) : Int)))), (p0, .inl (cI, 12, .inl (fun j => iI ((q j : Nat) : Int))))] := va_D_r (w1 := [(o0, .inr (0, [.long (pk a0), .long (pk a1), .long (pkn q w), .int (iI ((w : Nat) : Int))])), (u0, .inl (cJ, 1, .inr (.inl (fun _ => (iI ((fm (rw_ r a0 a1) (12 * k + i) j : Nat) : Int)).toInt64))))]) (w2 := [(m0, .inr (1, [.int th, .ref t0, .ref k0, .ref p0, .int (iI ((w : Nat) : Int))])), (t0, .inl (cI, 24, .inl (fun j => iI ((tb a0 a1 j : Nat) : Int)))), (k0, .inl (cI, 12, .inl (fun j => iI ((K j : Nat) : Int)))), (p0, .inl (cI, 12, .inl (fun j => iI ((q j : Nat) : Int))))]) hD
  refine wr_call (va_runV (As := [.int (iI ((r : Nat) : Int)), .int (iI ((k : Nat) : Int)), .int (iI ((i : Nat) : Int)), .int (iI ((j : Nat) : Int))]) (rest := []) ⟨hx, hb, hml, hown, hts⟩ (mX1_toneOf_ok l dC dI cI m0 t0 k0 p0 a0 a1 K q th w hp0.1 hp1.1 hw hq r k i j (by omega) (by omega) (by omega) (by omega)) (cwV 4 hts gL_law_X1_toneOf rfl rfl rfl hvX1_toneOf ⟨(Nat.le_of_ble_eq_true rfl), (Nat.le_of_ble_eq_true rfl)⟩) (bD_pre (ci := 1) (q0 := 0) hK2 hP2 hD2 rfl rfl rfl) rfl rfl hl.1 rfl (lv_room (Nat.le_of_ble_eq_true rfl)) dL_law_715 hf9) hS (fun q9 h => inW_A hD2 h) (fun H locs hPn hz hk hS => ?_)
  have hP : va_P (dC, dI) vwCl ([(o0, .inr (0, [.long (pk a0), .long (pk a1), .long (pkn q w), .int (iI ((w : Nat) : Int))])), (u0, .inl (cJ, 1, .inr (.inl (fun _ => (iI ((fm (rw_ r a0 a1) (12 * k + i) j : Nat) : Int)).toInt64))))] ++ [(m0, .inr (1, [.int (iI 0), .ref t0, .ref k0, .ref p0, .int (iI ((w : Nat) : Int))])), (t0, .inl (cI, 24, .inl (fun j => iI ((tb a0 a1 j : Nat) : Int)))), (k0, .inl (cI, 12, .inl (fun j => iI ((K j : Nat) : Int)))), (p0, .inl (cI, 12, .inl (fun j => iI ((q j : Nat) : Int))))]) H := wj_r (w1 := [(o0, .inr (0, [.long (pk a0), .long (pk a1), .long (pkn q w), .int (iI ((w : Nat) : Int))])), (u0, .inl (cJ, 1, .inr (.inl (fun _ => (iI ((fm (rw_ r a0 a1) (12 * k + i) j : Nat) : Int)).toInt64))))]) (w2 := [(m0, .inr (1, [.int th, .ref t0, .ref k0, .ref p0, .int (iI ((w : Nat) : Int))])), (t0, .inl (cI, 24, .inl (fun j => iI ((tb a0 a1 j : Nat) : Int)))), (k0, .inl (cI, 12, .inl (fun j => iI ((K j : Nat) : Int)))), (p0, .inl (cI, 12, .inl (fun j => iI ((q j : Nat) : Int))))]) (w2' := [(m0, .inr (1, [.int (iI 0), .ref t0, .ref k0, .ref p0, .int (iI ((w : Nat) : Int))])), (t0, .inl (cI, 24, .inl (fun j => iI ((tb a0 a1 j : Nat) : Int)))), (k0, .inl (cI, 12, .inl (fun j => iI ((K j : Nat) : Int)))), (p0, .inl (cI, 12, .inl (fun j => iI ((q j : Nat) : Int))))]) hP hD hPn hk
  have hD : va_D (LA s) ([(o0, .inr (0, [.long (pk a0), .long (pk a1), .long (pkn q w), .int (iI ((w : Nat) : Int))])), (u0, .inl (cJ, 1, .inr (.inl (fun _ => (iI ((fm (rw_ r a0 a1) (12 * k + i) j : Nat) : Int)).toInt64))))] ++ [(m0, .inr (1, [.int (iI 0), .ref t0, .ref k0, .ref p0, .int (iI ((w : Nat) : Int))])), (t0, .inl (cI, 24, .inl (fun j => iI ((tb a0 a1 j : Nat) : Int)))), (k0, .inl (cI, 12, .inl (fun j => iI ((K j : Nat) : Int)))), (p0, .inl (cI, 12, .inl (fun j => iI ((q j : Nat) : Int))))]) := va_D_same (w := ([(o0, .inr (0, [.long (pk a0), .long (pk a1), .long (pkn q w), .int (iI ((w : Nat) : Int))])), (u0, .inl (cJ, 1, .inr (.inl (fun _ => (iI ((fm (rw_ r a0 a1) (12 * k + i) j : Nat) : Int)).toInt64))))] ++ [(m0, .inr (1, [.int th, .ref t0, .ref k0, .ref p0, .int (iI ((w : Nat) : Int))])), (t0, .inl (cI, 24, .inl (fun j => iI ((tb a0 a1 j : Nat) : Int)))), (k0, .inl (cI, 12, .inl (fun j => iI ((K j : Nat) : Int)))), (p0, .inl (cI, 12, .inl (fun j => iI ((q j : Nat) : Int))))])) (Eq.trans (b := [o0, u0, m0, t0, k0, p0]) rfl rfl) hD
  refine va_forget hS.2.2 ?_
  have hS := va_S_nil hS
  refine lv_istore (lv' := [(6, .int (iI ((fm (rw_ r a0 a1) (12 * k + i) j : Nat) : Int))), (5, .int (iI 0)), (0, .ref b), (1, .ref o0), (2, .ref m0), (3, .ref u0), (4, .int (iI ((5 * n : Nat) : Int)))]) hx hb dL_law_718 hl (by decide) rfl (fun ls hl => ?_)
  refine lv_aload_n hx hb dL_law_720 rfl (lv_at hl 4 rfl) ?_
  have hP2 : va_P (dC, dI) vwCl [(m0, .inr (1, [.int (iI 0), .ref t0, .ref k0, .ref p0, .int (iI ((w : Nat) : Int))])), (t0, .inl (cI, 24, .inl (fun j => iI ((tb a0 a1 j : Nat) : Int)))), (k0, .inl (cI, 12, .inl (fun j => iI ((K j : Nat) : Int)))), (p0, .inl (cI, 12, .inl (fun j => iI ((q j : Nat) : Int))))] H := va_P_r (w1 := [(o0, .inr (0, [.long (pk a0), .long (pk a1), .long (pkn q w), .int (iI ((w : Nat) : Int))])), (u0, .inl (cJ, 1, .inr (.inl (fun _ => (iI ((fm (rw_ r a0 a1) (12 * k + i) j : Nat) : Int)).toInt64))))]) (w2 := [(m0, .inr (1, [.int (iI 0), .ref t0, .ref k0, .ref p0, .int (iI ((w : Nat) : Int))])), (t0, .inl (cI, 24, .inl (fun j => iI ((tb a0 a1 j : Nat) : Int)))), (k0, .inl (cI, 12, .inl (fun j => iI ((K j : Nat) : Int)))), (p0, .inl (cI, 12, .inl (fun j => iI ((q j : Nat) : Int))))]) hP
  have hK2 := hK.sub (tys' := [(cI, .int)]) [1] rfl
  have hf9 : cells + 1 + 0 ≤ room_1.cells ∧ slots + 6 + 0 ≤ room_1.slots := ⟨by show cells + 1 + 0 ≤ 1036; omega, by show slots + 6 + 0 ≤ 8286; omega⟩
  refine rd_call (va_runV (As := []) (rest := []) ⟨hx, hb, hml, hown, hts⟩ (mX1_thrown l dC dI cI m0 t0 k0 p0 a0 a1 K q (iI 0) w hp0.1 hp1.1 hw hq) (cwV 0 hts gL_law_X1_thrown rfl rfl rfl hvX1_thrown ⟨(Nat.le_of_ble_eq_true rfl), (Nat.le_of_ble_eq_true rfl)⟩) (bW_pre (ci := 1) (q0 := 0) hK2 hP2 rfl rfl rfl) rfl rfl hl.1 rfl (lv_room (Nat.le_of_ble_eq_true rfl)) dL_law_721 hf9) ?_
  refine lv_iload hx hb dL_law_724 (lv_at hl 1 rfl) ?_
  refine ib_icmp_eq (tgt := 731) hx hb dL_law_726 (by decide) ⟨by omega, by omega⟩ ⟨by omega, by omega⟩ (fun c_726 => ?_) (fun c_726 => absurd c_726 (by decide))
  refine lv_iload hx hb dL_law_731 (lv_at hl 1 rfl) ?_
  refine ib_if_ne (tgt := 748) hx hb dL_law_733 (by decide) ⟨by omega, by omega⟩ (fun c_733 => absurd c_733 (by decide)) (fun c_733 => ?_)
  refine lv_aload_n hx hb dL_law_736 rfl (lv_at hl 5 rfl) ?_
  refine ib_const hx hb dL_law_737 ?_
  refine va_lald hx hb hK hP 1 0 rfl rfl vp0 dL_law_738 ?_
  refine st_l (y := (iI ((fm (rw_ r a0 a1) (12 * k + i) j : Nat) : Int)).toInt64) rfl ?_
  refine lv_iload hx hb dL_law_739 (lv_at hl 0 rfl) ?_
  refine lv_i2l hx hb dL_law_741 rfl ?_
  refine W.lcmp hx hb dL_law_742 ?_
  refine bl_eq (tgt := 748) hx hb dL_law_743 (by decide) (fun _ => ?_) (fun h => absurd rfl h)
  refine lv_goto (tgt := 1833) hx hb dL_law_748 (by decide) ?_
  exact kk a0 a1 q K w (iI 0) (fun _ => (iI ((fm (rw_ r a0 a1) (12 * k + i) j : Nat) : Int)).toInt64) H ls ⟨hp0, hp1, hw, hq, hqd, hP, hD, hS⟩ (lv_sub hl [2, 3, 4, 5, 6] rfl)

set_option maxHeartbeats 4000000 in
set_option maxRecDepth 100000 in
theorem law_c8 {p : Program} {l : Launch} {e : Env} {s : State} {m : MethodId} {below : List Frame} {meth : Method} {c : Code} {Q : State → Prop} {dC : Nat → ClassId} {dI : Nat → Nat → Nat} {cI cJ : ClassId} {b L : Nat} {xs : Nat → Int32} (C : LC p l s m meth c (dC, dI) cI cJ b L xs) {o0 u0 m0 t0 k0 p0 : Nat} {a0 a1 q K : Nat → Nat} {w : Nat} {th : Int32} {g : Nat → Int64} {H : Heap} (hI : LI s (dC, dI) cI cJ o0 u0 m0 t0 k0 p0 a0 a1 q K w th g H) {n cells slots : Nat} (hc1 : cells + 1 ≤ 1036) (hc2 : slots + 6 ≤ 8286) (hn : 5 * n + 5 ≤ L) (hL : L ≤ 2560) {ls : Array Slot} (hl : lv_has ls 8 [(0, .ref b), (1, .ref o0), (2, .ref m0), (3, .ref u0), (4, .int (iI ((5 * n : Nat) : Int)))])
    (kk : ∀ (a0 a1 q K : Nat → Nat) (w : Nat) (th : Int32) (g : Nat → Int64) (H : Heap) (ls : Array Slot), LI s (dC, dI) cI cJ o0 u0 m0 t0 k0 p0 a0 a1 q K w th g H → lv_has ls 8 [(0, .ref b), (1, .ref o0), (2, .ref m0), (3, .ref u0), (4, .int (iI ((5 * n : Nat) : Int)))] → W p l e room_1 s m #[Value.ref b] below meth c H [] (cells + 1) (slots + 6) Q (F0 m 1833 ls [])) : W p l e room_1 s m #[Value.ref b] below meth c H [] cells slots Q (F0 m 751 ls []) := by
  obtain ⟨hx, hb, hml, hown, hts, hK, hG0, hN, hX, hbl, hfl⟩ := C
  obtain ⟨hp0, hp1, hw, hq, hqd, hP, hD, hS⟩ := hI
  have hbA : ¬ LA s b := Nat.not_le.mpr hbl
  obtain ⟨z0, hz0, e0⟩ := ex_i (xs (5 * n + 1))
  obtain ⟨z1, hz1, e1⟩ := ex_i (xs (5 * n + 2))
  obtain ⟨z2, hz2, e2⟩ := ex_i (xs (5 * n + 3))
  have hza0 := hz0.1
  have hzb0 := hz0.2
  have hza1 := hz1.1
  have hzb1 := hz1.2
  have hza2 := hz2.1
  have hzb2 := hz2.2
  by_cases b1 : ¬ ((z0 = 0 ∨ z0 = 1) ∧ (0 ≤ z1 ∧ z1 ≤ 11) ∧ (0 ≤ z2 ∧ z2 ≤ 11))
  · skip
    refine lv_aload_n hx hb dL_law_751 rfl (lv_at hl 1 rfl) ?_
    refine lv_aload_n hx hb dL_law_752 rfl (lv_at hl 0 rfl) ?_
    refine lv_iload hx hb dL_law_753 (lv_at hl 4 rfl) ?_
    refine ib_const hx hb dL_law_755 ?_
    refine ib_add (z := (((5 * n) + 1 : Nat) : Int)) hx hb dL_law_756 (by omega) ?_
    refine st_i (y := iI ((5 * n + 1 : Nat) : Int)) (congrArg iI (by omega)) ?_
    refine va_sld (b := b) (L := L) (xs := xs) hx hb hX hbl hbA hS (iI_vp (i := 5 * n + 1) (by omega) (by omega)) dL_law_757 ?_
    refine st_i (y := iI z0) ((congrArg xs (iI_cl (by omega))).trans e0) ?_
    refine lv_aload_n hx hb dL_law_758 rfl (lv_at hl 0 rfl) ?_
    refine lv_iload hx hb dL_law_759 (lv_at hl 4 rfl) ?_
    refine ib_const hx hb dL_law_761 ?_
    refine ib_add (z := (((5 * n) + 2 : Nat) : Int)) hx hb dL_law_762 (by omega) ?_
    refine st_i (y := iI ((5 * n + 2 : Nat) : Int)) (congrArg iI (by omega)) ?_
    refine va_sld (b := b) (L := L) (xs := xs) hx hb hX hbl hbA hS (iI_vp (i := 5 * n + 2) (by omega) (by omega)) dL_law_763 ?_
    refine st_i (y := iI z1) ((congrArg xs (iI_cl (by omega))).trans e1) ?_
    refine lv_aload_n hx hb dL_law_764 rfl (lv_at hl 0 rfl) ?_
    refine lv_iload hx hb dL_law_765 (lv_at hl 4 rfl) ?_
    refine ib_const hx hb dL_law_767 ?_
    refine ib_add (z := (((5 * n) + 3 : Nat) : Int)) hx hb dL_law_768 (by omega) ?_
    refine st_i (y := iI ((5 * n + 3 : Nat) : Int)) (congrArg iI (by omega)) ?_
    refine va_sld (b := b) (L := L) (xs := xs) hx hb hX hbl hbA hS (iI_vp (i := 5 * n + 3) (by omega) (by omega)) dL_law_769 ?_
    refine st_i (y := iI z2) ((congrArg xs (iI_cl (by omega))).trans e2) ?_
    refine lv_aload_n hx hb dL_law_770 rfl (lv_at hl 3 rfl) ?_
    have hf9 : cells + 1 ≤ room_1.cells ∧ slots + 6 ≤ room_1.slots := ⟨by show cells + 1 ≤ 1036; omega, by show slots + 6 ≤ 8286; omega⟩
    have hP1 : va_P (dC, dI) vwCl [(o0, .inr (0, [.long (pk a0), .long (pk a1), .long (pkn q w), .int (iI ((w : Nat) : Int))]))] H := va_P_l (w1 := [(o0, .inr (0, [.long (pk a0), .long (pk a1), .long (pkn q w), .int (iI ((w : Nat) : Int))]))]) (w2 := [(u0, .inl (cJ, 1, .inr (.inl (g)))), (m0, .inr (1, [.int th, .ref t0, .ref k0, .ref p0, .int (iI ((w : Nat) : Int))])), (t0, .inl (cI, 24, .inl (fun j => iI ((tb a0 a1 j : Nat) : Int)))), (k0, .inl (cI, 12, .inl (fun j => iI ((K j : Nat) : Int)))), (p0, .inl (cI, 12, .inl (fun j => iI ((q j : Nat) : Int))))]) hP
    have hK1 := hK.sub (tys' := []) [] rfl
    refine rdK_call (vx_runSW (As := [.ref o0, .int (iI z0), .int (iI z1), .int (iI z2), .ref u0]) (rest := []) ⟨hx, hb, hml, hown, hts⟩ (mL_matrix_x1 l hfl dC dI o0 a0 a1 q w hp0 hp1 hw hq hqd u0 z0 z1 z2 hz0 hz1 hz2 b1) (vx_cwSW 5 hts gL_law_L_matrix rfl rfl rfl hdL_matrix ⟨(Nat.le_of_ble_eq_true rfl), (Nat.le_of_ble_eq_true rfl)⟩) (bY_preS hK1 hP1 (hG0.at hS) hN) rfl rfl hl.1 rfl (lv_room (Nat.le_of_ble_eq_true rfl)) dL_law_771 hf9) (fun H hz hk => ?_)
    have hP : va_P (dC, dI) vwCl ([(o0, .inr (0, [.long (pk a0), .long (pk a1), .long (pkn q w), .int (iI ((w : Nat) : Int))])), (u0, .inl (cJ, 1, .inr (.inl (g))))] ++ [(m0, .inr (1, [.int th, .ref t0, .ref k0, .ref p0, .int (iI ((w : Nat) : Int))])), (t0, .inl (cI, 24, .inl (fun j => iI ((tb a0 a1 j : Nat) : Int)))), (k0, .inl (cI, 12, .inl (fun j => iI ((K j : Nat) : Int)))), (p0, .inl (cI, 12, .inl (fun j => iI ((q j : Nat) : Int))))]) H := va_P_new hP hk
    have hS := va_S_new hS hz hk
    refine lv_istore (lv' := [(5, .int (iI 1)), (0, .ref b), (1, .ref o0), (2, .ref m0), (3, .ref u0), (4, .int (iI ((5 * n : Nat) : Int)))]) hx hb dL_law_774 hl (by decide) rfl (fun ls hl => ?_)
    refine lv_aload_n hx hb dL_law_776 rfl (lv_at hl 3 rfl) ?_
    refine lv_aload_n hx hb dL_law_777 rfl (lv_at hl 1 rfl) ?_
    refine lv_iload hx hb dL_law_778 (lv_at hl 5 rfl) ?_
    refine ib_const hx hb dL_law_780 ?_
    refine ib_add (z := (((5 * n) + 1 : Nat) : Int)) hx hb dL_law_781 (by omega) ?_
    refine st_i (y := iI ((5 * n + 1 : Nat) : Int)) (congrArg iI (by omega)) ?_
    refine va_sld (b := b) (L := L) (xs := xs) hx hb hX hbl hbA hS (iI_vp (i := 5 * n + 1) (by omega) (by omega)) dL_law_782 ?_
    refine st_i (y := iI z0) ((congrArg xs (iI_cl (by omega))).trans e0) ?_
    refine lv_aload_n hx hb dL_law_783 rfl (lv_at hl 1 rfl) ?_
    refine lv_iload hx hb dL_law_784 (lv_at hl 5 rfl) ?_
    refine ib_const hx hb dL_law_786 ?_
    refine ib_add (z := (((5 * n) + 2 : Nat) : Int)) hx hb dL_law_787 (by omega) ?_
    refine st_i (y := iI ((5 * n + 2 : Nat) : Int)) (congrArg iI (by omega)) ?_
    refine va_sld (b := b) (L := L) (xs := xs) hx hb hX hbl hbA hS (iI_vp (i := 5 * n + 2) (by omega) (by omega)) dL_law_788 ?_
    refine st_i (y := iI z1) ((congrArg xs (iI_cl (by omega))).trans e1) ?_
    refine lv_aload_n hx hb dL_law_789 rfl (lv_at hl 1 rfl) ?_
    refine lv_iload hx hb dL_law_790 (lv_at hl 5 rfl) ?_
    refine ib_const hx hb dL_law_792 ?_
    refine ib_add (z := (((5 * n) + 3 : Nat) : Int)) hx hb dL_law_793 (by omega) ?_
    refine st_i (y := iI ((5 * n + 3 : Nat) : Int)) (congrArg iI (by omega)) ?_
    refine va_sld (b := b) (L := L) (xs := xs) hx hb hX hbl hbA hS (iI_vp (i := 5 * n + 3) (by omega) (by omega)) dL_law_794 ?_
    refine st_i (y := iI z2) ((congrArg xs (iI_cl (by omega))).trans e2) ?_
    have hP2 : va_P (dC, dI) vwCl [(m0, .inr (1, [.int th, .ref t0, .ref k0, .ref p0, .int (iI ((w : Nat) : Int))])), (t0, .inl (cI, 24, .inl (fun j => iI ((tb a0 a1 j : Nat) : Int)))), (k0, .inl (cI, 12, .inl (fun j => iI ((K j : Nat) : Int)))), (p0, .inl (cI, 12, .inl (fun j => iI ((q j : Nat) : Int))))] H := va_P_r (w1 := [(o0, .inr (0, [.long (pk a0), .long (pk a1), .long (pkn q w), .int (iI ((w : Nat) : Int))])), (u0, .inl (cJ, 1, .inr (.inl (g))))]) (w2 := [(m0, .inr (1, [.int th, .ref t0, .ref k0, .ref p0, .int (iI ((w : Nat) : Int))])), (t0, .inl (cI, 24, .inl (fun j => iI ((tb a0 a1 j : Nat) : Int)))), (k0, .inl (cI, 12, .inl (fun j => iI ((K j : Nat) : Int)))), (p0, .inl (cI, 12, .inl (fun j => iI ((q j : Nat) : Int))))]) hP
    have hK2 := hK.sub (tys' := [(cI, .int)]) [1] rfl
    have hf9 : cells + 1 + 0 ≤ room_1.cells ∧ slots + 6 + 0 ≤ room_1.slots := ⟨by show cells + 1 + 0 ≤ 1036; omega, by show slots + 6 + 0 ≤ 8286; omega⟩
    have hD2 : va_D (LA s) [(m0, .inr (1, [.int th, .ref t0, .ref k0, .ref p0, .int (iI ((w : Nat) : Int))])), (t0, .inl (cI, 24, .inl (fun j => iI ((tb a0 a1 j : Nat) : Int)))), (k0, .inl (cI, 12, .inl (fun j => iI ((K j : Nat) : Int)))), (p0, .inl (cI, 12, .inl (fun j => iI ((q j : Nat) : Int))))] := va_D_r (w1 := [(o0, .inr (0, [.long (pk a0), .long (pk a1), .long (pkn q w), .int (iI ((w : Nat) : Int))])), (u0, .inl (cJ, 1, .inr (.inl (g))))]) (w2 := [(m0, .inr (1, [.int th, .ref t0, .ref k0, .ref p0, .int (iI ((w : Nat) : Int))])), (t0, .inl (cI, 24, .inl (fun j => iI ((tb a0 a1 j : Nat) : Int)))), (k0, .inl (cI, 12, .inl (fun j => iI ((K j : Nat) : Int)))), (p0, .inl (cI, 12, .inl (fun j => iI ((q j : Nat) : Int))))]) hD
    refine wr_call (va_runV (As := [.int (iI z0), .int (iI z1), .int (iI z2)]) (rest := []) ⟨hx, hb, hml, hown, hts⟩ (mX1_matrix_x1 l dC dI cI m0 t0 k0 p0 a0 a1 K q th w hp0.1 hp1.1 hw hq z0 z1 z2 hz0 hz1 hz2 b1) (cwV 3 hts gL_law_X1_matrix rfl rfl rfl hvX1_matrix ⟨(Nat.le_of_ble_eq_true rfl), (Nat.le_of_ble_eq_true rfl)⟩) (bD_pre (ci := 1) (q0 := 0) hK2 hP2 hD2 rfl rfl rfl) rfl rfl hl.1 rfl (lv_room (Nat.le_of_ble_eq_true rfl)) dL_law_795 hf9) hS (fun q9 h => inW_A hD2 h) (fun H locs hPn hz hk hS => ?_)
    have hP : va_P (dC, dI) vwCl ([(o0, .inr (0, [.long (pk a0), .long (pk a1), .long (pkn q w), .int (iI ((w : Nat) : Int))])), (u0, .inl (cJ, 1, .inr (.inl (g))))] ++ [(m0, .inr (1, [.int (iI 1), .ref t0, .ref k0, .ref p0, .int (iI ((w : Nat) : Int))])), (t0, .inl (cI, 24, .inl (fun j => iI ((tb a0 a1 j : Nat) : Int)))), (k0, .inl (cI, 12, .inl (fun j => iI ((K j : Nat) : Int)))), (p0, .inl (cI, 12, .inl (fun j => iI ((q j : Nat) : Int))))]) H := wj_r (w1 := [(o0, .inr (0, [.long (pk a0), .long (pk a1), .long (pkn q w), .int (iI ((w : Nat) : Int))])), (u0, .inl (cJ, 1, .inr (.inl (g))))]) (w2 := [(m0, .inr (1, [.int th, .ref t0, .ref k0, .ref p0, .int (iI ((w : Nat) : Int))])), (t0, .inl (cI, 24, .inl (fun j => iI ((tb a0 a1 j : Nat) : Int)))), (k0, .inl (cI, 12, .inl (fun j => iI ((K j : Nat) : Int)))), (p0, .inl (cI, 12, .inl (fun j => iI ((q j : Nat) : Int))))]) (w2' := [(m0, .inr (1, [.int (iI 1), .ref t0, .ref k0, .ref p0, .int (iI ((w : Nat) : Int))])), (t0, .inl (cI, 24, .inl (fun j => iI ((tb a0 a1 j : Nat) : Int)))), (k0, .inl (cI, 12, .inl (fun j => iI ((K j : Nat) : Int)))), (p0, .inl (cI, 12, .inl (fun j => iI ((q j : Nat) : Int))))]) hP hD hPn hk
    have hD : va_D (LA s) ([(o0, .inr (0, [.long (pk a0), .long (pk a1), .long (pkn q w), .int (iI ((w : Nat) : Int))])), (u0, .inl (cJ, 1, .inr (.inl (g))))] ++ [(m0, .inr (1, [.int (iI 1), .ref t0, .ref k0, .ref p0, .int (iI ((w : Nat) : Int))])), (t0, .inl (cI, 24, .inl (fun j => iI ((tb a0 a1 j : Nat) : Int)))), (k0, .inl (cI, 12, .inl (fun j => iI ((K j : Nat) : Int)))), (p0, .inl (cI, 12, .inl (fun j => iI ((q j : Nat) : Int))))]) := va_D_same (w := ([(o0, .inr (0, [.long (pk a0), .long (pk a1), .long (pkn q w), .int (iI ((w : Nat) : Int))])), (u0, .inl (cJ, 1, .inr (.inl (g))))] ++ [(m0, .inr (1, [.int th, .ref t0, .ref k0, .ref p0, .int (iI ((w : Nat) : Int))])), (t0, .inl (cI, 24, .inl (fun j => iI ((tb a0 a1 j : Nat) : Int)))), (k0, .inl (cI, 12, .inl (fun j => iI ((K j : Nat) : Int)))), (p0, .inl (cI, 12, .inl (fun j => iI ((q j : Nat) : Int))))])) (Eq.trans (b := [o0, u0, m0, t0, k0, p0]) rfl rfl) hD
    refine va_forget hS.2.2 ?_
    have hS := va_S_nil hS
    refine lv_istore (lv' := [(6, .int (iI 0)), (5, .int (iI 1)), (0, .ref b), (1, .ref o0), (2, .ref m0), (3, .ref u0), (4, .int (iI ((5 * n : Nat) : Int)))]) hx hb dL_law_798 hl (by decide) rfl (fun ls hl => ?_)
    refine lv_aload_n hx hb dL_law_800 rfl (lv_at hl 4 rfl) ?_
    have hP2 : va_P (dC, dI) vwCl [(m0, .inr (1, [.int (iI 1), .ref t0, .ref k0, .ref p0, .int (iI ((w : Nat) : Int))])), (t0, .inl (cI, 24, .inl (fun j => iI ((tb a0 a1 j : Nat) : Int)))), (k0, .inl (cI, 12, .inl (fun j => iI ((K j : Nat) : Int)))), (p0, .inl (cI, 12, .inl (fun j => iI ((q j : Nat) : Int))))] H := va_P_r (w1 := [(o0, .inr (0, [.long (pk a0), .long (pk a1), .long (pkn q w), .int (iI ((w : Nat) : Int))])), (u0, .inl (cJ, 1, .inr (.inl (g))))]) (w2 := [(m0, .inr (1, [.int (iI 1), .ref t0, .ref k0, .ref p0, .int (iI ((w : Nat) : Int))])), (t0, .inl (cI, 24, .inl (fun j => iI ((tb a0 a1 j : Nat) : Int)))), (k0, .inl (cI, 12, .inl (fun j => iI ((K j : Nat) : Int)))), (p0, .inl (cI, 12, .inl (fun j => iI ((q j : Nat) : Int))))]) hP
    have hK2 := hK.sub (tys' := [(cI, .int)]) [1] rfl
    have hf9 : cells + 1 + 0 ≤ room_1.cells ∧ slots + 6 + 0 ≤ room_1.slots := ⟨by show cells + 1 + 0 ≤ 1036; omega, by show slots + 6 + 0 ≤ 8286; omega⟩
    refine rd_call (va_runV (As := []) (rest := []) ⟨hx, hb, hml, hown, hts⟩ (mX1_thrown l dC dI cI m0 t0 k0 p0 a0 a1 K q (iI 1) w hp0.1 hp1.1 hw hq) (cwV 0 hts gL_law_X1_thrown rfl rfl rfl hvX1_thrown ⟨(Nat.le_of_ble_eq_true rfl), (Nat.le_of_ble_eq_true rfl)⟩) (bW_pre (ci := 1) (q0 := 0) hK2 hP2 rfl rfl rfl) rfl rfl hl.1 rfl (lv_room (Nat.le_of_ble_eq_true rfl)) dL_law_801 hf9) ?_
    refine lv_iload hx hb dL_law_804 (lv_at hl 1 rfl) ?_
    refine ib_icmp_eq (tgt := 811) hx hb dL_law_806 (by decide) ⟨by omega, by omega⟩ ⟨by omega, by omega⟩ (fun c_806 => ?_) (fun c_806 => absurd c_806 (by decide))
    refine lv_iload hx hb dL_law_811 (lv_at hl 1 rfl) ?_
    refine ib_if_ne (tgt := 828) hx hb dL_law_813 (by decide) ⟨by omega, by omega⟩ (fun c_813 => ?_) (fun c_813 => absurd c_813 (by decide))
    refine lv_goto (tgt := 1833) hx hb dL_law_828 (by decide) ?_
    exact kk a0 a1 q K w (iI 1) (g) H ls ⟨hp0, hp1, hw, hq, hqd, hP, hD, hS⟩ (lv_sub hl [2, 3, 4, 5, 6] rfl)
  obtain ⟨r, hn0, rfl⟩ := nat_of (z := z0) (k := 4095) (by omega)
  obtain ⟨i, hn1, rfl⟩ := nat_of (z := z1) (k := 4095) (by omega)
  obtain ⟨j, hn2, rfl⟩ := nat_of (z := z2) (k := 4095) (by omega)
  refine lv_aload_n hx hb dL_law_751 rfl (lv_at hl 1 rfl) ?_
  refine lv_aload_n hx hb dL_law_752 rfl (lv_at hl 0 rfl) ?_
  refine lv_iload hx hb dL_law_753 (lv_at hl 4 rfl) ?_
  refine ib_const hx hb dL_law_755 ?_
  refine ib_add (z := (((5 * n) + 1 : Nat) : Int)) hx hb dL_law_756 (by omega) ?_
  refine st_i (y := iI ((5 * n + 1 : Nat) : Int)) (congrArg iI (by omega)) ?_
  refine va_sld (b := b) (L := L) (xs := xs) hx hb hX hbl hbA hS (iI_vp (i := 5 * n + 1) (by omega) (by omega)) dL_law_757 ?_
  refine st_i (y := iI ((r : Nat) : Int)) ((congrArg xs (iI_cl (by omega))).trans e0) ?_
  refine lv_aload_n hx hb dL_law_758 rfl (lv_at hl 0 rfl) ?_
  refine lv_iload hx hb dL_law_759 (lv_at hl 4 rfl) ?_
  refine ib_const hx hb dL_law_761 ?_
  refine ib_add (z := (((5 * n) + 2 : Nat) : Int)) hx hb dL_law_762 (by omega) ?_
  refine st_i (y := iI ((5 * n + 2 : Nat) : Int)) (congrArg iI (by omega)) ?_
  refine va_sld (b := b) (L := L) (xs := xs) hx hb hX hbl hbA hS (iI_vp (i := 5 * n + 2) (by omega) (by omega)) dL_law_763 ?_
  refine st_i (y := iI ((i : Nat) : Int)) ((congrArg xs (iI_cl (by omega))).trans e1) ?_
  refine lv_aload_n hx hb dL_law_764 rfl (lv_at hl 0 rfl) ?_
  refine lv_iload hx hb dL_law_765 (lv_at hl 4 rfl) ?_
  refine ib_const hx hb dL_law_767 ?_
  refine ib_add (z := (((5 * n) + 3 : Nat) : Int)) hx hb dL_law_768 (by omega) ?_
  refine st_i (y := iI ((5 * n + 3 : Nat) : Int)) (congrArg iI (by omega)) ?_
  refine va_sld (b := b) (L := L) (xs := xs) hx hb hX hbl hbA hS (iI_vp (i := 5 * n + 3) (by omega) (by omega)) dL_law_769 ?_
  refine st_i (y := iI ((j : Nat) : Int)) ((congrArg xs (iI_cl (by omega))).trans e2) ?_
  refine lv_aload_n hx hb dL_law_770 rfl (lv_at hl 3 rfl) ?_
  have hf9 : cells + 0 ≤ room_1.cells ∧ slots + 0 ≤ room_1.slots := ⟨by show cells + 0 ≤ 1036; omega, by show slots + 0 ≤ 8286; omega⟩
  have hP1 : va_P (dC, dI) vwCl [(o0, .inr (0, [.long (pk a0), .long (pk a1), .long (pkn q w), .int (iI ((w : Nat) : Int))])), (u0, .inl (cJ, 1, .inr (.inl (g))))] H := va_P_l (w1 := [(o0, .inr (0, [.long (pk a0), .long (pk a1), .long (pkn q w), .int (iI ((w : Nat) : Int))])), (u0, .inl (cJ, 1, .inr (.inl (g))))]) (w2 := [(m0, .inr (1, [.int th, .ref t0, .ref k0, .ref p0, .int (iI ((w : Nat) : Int))])), (t0, .inl (cI, 24, .inl (fun j => iI ((tb a0 a1 j : Nat) : Int)))), (k0, .inl (cI, 12, .inl (fun j => iI ((K j : Nat) : Int)))), (p0, .inl (cI, 12, .inl (fun j => iI ((q j : Nat) : Int))))]) hP
  have hD1 : va_D (LA s) [(o0, .inr (0, [.long (pk a0), .long (pk a1), .long (pkn q w), .int (iI ((w : Nat) : Int))])), (u0, .inl (cJ, 1, .inr (.inl (g))))] := va_D_l (w1 := [(o0, .inr (0, [.long (pk a0), .long (pk a1), .long (pkn q w), .int (iI ((w : Nat) : Int))])), (u0, .inl (cJ, 1, .inr (.inl (g))))]) (w2 := [(m0, .inr (1, [.int th, .ref t0, .ref k0, .ref p0, .int (iI ((w : Nat) : Int))])), (t0, .inl (cI, 24, .inl (fun j => iI ((tb a0 a1 j : Nat) : Int)))), (k0, .inl (cI, 12, .inl (fun j => iI ((K j : Nat) : Int)))), (p0, .inl (cI, 12, .inl (fun j => iI ((q j : Nat) : Int))))]) hD
  have hK1 := hK.sub (tys' := [(cJ, .long)]) [0] rfl
  refine wr_call (vx_runSW (As := [.ref o0, .int (iI ((r : Nat) : Int)), .int (iI ((i : Nat) : Int)), .int (iI ((j : Nat) : Int)), .ref u0]) (rest := []) ⟨hx, hb, hml, hown, hts⟩ (mL_matrix_ok l dC dI cJ o0 u0 a0 a1 q w hp0 hp1 hw hq hqd g r i j (by omega) (by omega) (by omega)) (vx_cwSW 5 hts gL_law_L_matrix rfl rfl rfl hdL_matrix ⟨(Nat.le_of_ble_eq_true rfl), (Nat.le_of_ble_eq_true rfl)⟩) (bD_preS hK1 hP1 hD1) rfl rfl hl.1 rfl (lv_room (Nat.le_of_ble_eq_true rfl)) dL_law_771 hf9) hS (fun q9 h => inW_A hD1 h) (fun H locs hPn hz hk hS => ?_)
  have hP : va_P (dC, dI) vwCl ([(o0, .inr (0, [.long (pk a0), .long (pk a1), .long (pkn q w), .int (iI ((w : Nat) : Int))])), (u0, .inl (cJ, 1, .inr (.inl (fun _ => (iI ((fm (rw_ r a0 a1) (12 * 0 + fm (rw_ r a0 a1) (12 * 1 + rw_ r a0 a1 0) i) j : Nat) : Int)).toInt64))))] ++ [(m0, .inr (1, [.int th, .ref t0, .ref k0, .ref p0, .int (iI ((w : Nat) : Int))])), (t0, .inl (cI, 24, .inl (fun j => iI ((tb a0 a1 j : Nat) : Int)))), (k0, .inl (cI, 12, .inl (fun j => iI ((K j : Nat) : Int)))), (p0, .inl (cI, 12, .inl (fun j => iI ((q j : Nat) : Int))))]) H := wj_l (w1 := [(o0, .inr (0, [.long (pk a0), .long (pk a1), .long (pkn q w), .int (iI ((w : Nat) : Int))])), (u0, .inl (cJ, 1, .inr (.inl (g))))]) (w2 := [(m0, .inr (1, [.int th, .ref t0, .ref k0, .ref p0, .int (iI ((w : Nat) : Int))])), (t0, .inl (cI, 24, .inl (fun j => iI ((tb a0 a1 j : Nat) : Int)))), (k0, .inl (cI, 12, .inl (fun j => iI ((K j : Nat) : Int)))), (p0, .inl (cI, 12, .inl (fun j => iI ((q j : Nat) : Int))))]) (w1' := [(o0, .inr (0, [.long (pk a0), .long (pk a1), .long (pkn q w), .int (iI ((w : Nat) : Int))])), (u0, .inl (cJ, 1, .inr (.inl (fun _ => (iI ((fm (rw_ r a0 a1) (12 * 0 + fm (rw_ r a0 a1) (12 * 1 + rw_ r a0 a1 0) i) j : Nat) : Int)).toInt64))))]) hP hD hPn hk
  have hD : va_D (LA s) ([(o0, .inr (0, [.long (pk a0), .long (pk a1), .long (pkn q w), .int (iI ((w : Nat) : Int))])), (u0, .inl (cJ, 1, .inr (.inl (fun _ => (iI ((fm (rw_ r a0 a1) (12 * 0 + fm (rw_ r a0 a1) (12 * 1 + rw_ r a0 a1 0) i) j : Nat) : Int)).toInt64))))] ++ [(m0, .inr (1, [.int th, .ref t0, .ref k0, .ref p0, .int (iI ((w : Nat) : Int))])), (t0, .inl (cI, 24, .inl (fun j => iI ((tb a0 a1 j : Nat) : Int)))), (k0, .inl (cI, 12, .inl (fun j => iI ((K j : Nat) : Int)))), (p0, .inl (cI, 12, .inl (fun j => iI ((q j : Nat) : Int))))]) := va_D_same (w := ([(o0, .inr (0, [.long (pk a0), .long (pk a1), .long (pkn q w), .int (iI ((w : Nat) : Int))])), (u0, .inl (cJ, 1, .inr (.inl (g))))] ++ [(m0, .inr (1, [.int th, .ref t0, .ref k0, .ref p0, .int (iI ((w : Nat) : Int))])), (t0, .inl (cI, 24, .inl (fun j => iI ((tb a0 a1 j : Nat) : Int)))), (k0, .inl (cI, 12, .inl (fun j => iI ((K j : Nat) : Int)))), (p0, .inl (cI, 12, .inl (fun j => iI ((q j : Nat) : Int))))])) (Eq.trans (b := [o0, u0, m0, t0, k0, p0]) rfl rfl) hD
  refine va_forget hS.2.2 ?_
  have hS := va_S_nil hS
  refine W.widen (k := cells + 1) (n := slots + 6) (by omega) (by omega) ?_
  refine lv_istore (lv' := [(5, .int (iI 0)), (0, .ref b), (1, .ref o0), (2, .ref m0), (3, .ref u0), (4, .int (iI ((5 * n : Nat) : Int)))]) hx hb dL_law_774 hl (by decide) rfl (fun ls hl => ?_)
  refine lv_aload_n hx hb dL_law_776 rfl (lv_at hl 3 rfl) ?_
  refine lv_aload_n hx hb dL_law_777 rfl (lv_at hl 1 rfl) ?_
  refine lv_iload hx hb dL_law_778 (lv_at hl 5 rfl) ?_
  refine ib_const hx hb dL_law_780 ?_
  refine ib_add (z := (((5 * n) + 1 : Nat) : Int)) hx hb dL_law_781 (by omega) ?_
  refine st_i (y := iI ((5 * n + 1 : Nat) : Int)) (congrArg iI (by omega)) ?_
  refine va_sld (b := b) (L := L) (xs := xs) hx hb hX hbl hbA hS (iI_vp (i := 5 * n + 1) (by omega) (by omega)) dL_law_782 ?_
  refine st_i (y := iI ((r : Nat) : Int)) ((congrArg xs (iI_cl (by omega))).trans e0) ?_
  refine lv_aload_n hx hb dL_law_783 rfl (lv_at hl 1 rfl) ?_
  refine lv_iload hx hb dL_law_784 (lv_at hl 5 rfl) ?_
  refine ib_const hx hb dL_law_786 ?_
  refine ib_add (z := (((5 * n) + 2 : Nat) : Int)) hx hb dL_law_787 (by omega) ?_
  refine st_i (y := iI ((5 * n + 2 : Nat) : Int)) (congrArg iI (by omega)) ?_
  refine va_sld (b := b) (L := L) (xs := xs) hx hb hX hbl hbA hS (iI_vp (i := 5 * n + 2) (by omega) (by omega)) dL_law_788 ?_
  refine st_i (y := iI ((i : Nat) : Int)) ((congrArg xs (iI_cl (by omega))).trans e1) ?_
  refine lv_aload_n hx hb dL_law_789 rfl (lv_at hl 1 rfl) ?_
  refine lv_iload hx hb dL_law_790 (lv_at hl 5 rfl) ?_
  refine ib_const hx hb dL_law_792 ?_
  refine ib_add (z := (((5 * n) + 3 : Nat) : Int)) hx hb dL_law_793 (by omega) ?_
  refine st_i (y := iI ((5 * n + 3 : Nat) : Int)) (congrArg iI (by omega)) ?_
  refine va_sld (b := b) (L := L) (xs := xs) hx hb hX hbl hbA hS (iI_vp (i := 5 * n + 3) (by omega) (by omega)) dL_law_794 ?_
  refine st_i (y := iI ((j : Nat) : Int)) ((congrArg xs (iI_cl (by omega))).trans e2) ?_
  have hP2 : va_P (dC, dI) vwCl [(m0, .inr (1, [.int th, .ref t0, .ref k0, .ref p0, .int (iI ((w : Nat) : Int))])), (t0, .inl (cI, 24, .inl (fun j => iI ((tb a0 a1 j : Nat) : Int)))), (k0, .inl (cI, 12, .inl (fun j => iI ((K j : Nat) : Int)))), (p0, .inl (cI, 12, .inl (fun j => iI ((q j : Nat) : Int))))] H := va_P_r (w1 := [(o0, .inr (0, [.long (pk a0), .long (pk a1), .long (pkn q w), .int (iI ((w : Nat) : Int))])), (u0, .inl (cJ, 1, .inr (.inl (fun _ => (iI ((fm (rw_ r a0 a1) (12 * 0 + fm (rw_ r a0 a1) (12 * 1 + rw_ r a0 a1 0) i) j : Nat) : Int)).toInt64))))]) (w2 := [(m0, .inr (1, [.int th, .ref t0, .ref k0, .ref p0, .int (iI ((w : Nat) : Int))])), (t0, .inl (cI, 24, .inl (fun j => iI ((tb a0 a1 j : Nat) : Int)))), (k0, .inl (cI, 12, .inl (fun j => iI ((K j : Nat) : Int)))), (p0, .inl (cI, 12, .inl (fun j => iI ((q j : Nat) : Int))))]) hP
  have hK2 := hK.sub (tys' := [(cI, .int)]) [1] rfl
  have hf9 : cells + 1 + 0 ≤ room_1.cells ∧ slots + 6 + 0 ≤ room_1.slots := ⟨by show cells + 1 + 0 ≤ 1036; omega, by show slots + 6 + 0 ≤ 8286; omega⟩
  have hD2 : va_D (LA s) [(m0, .inr (1, [.int th, .ref t0, .ref k0, .ref p0, .int (iI ((w : Nat) : Int))])), (t0, .inl (cI, 24, .inl (fun j => iI ((tb a0 a1 j : Nat) : Int)))), (k0, .inl (cI, 12, .inl (fun j => iI ((K j : Nat) : Int)))), (p0, .inl (cI, 12, .inl (fun j => iI ((q j : Nat) : Int))))] := va_D_r (w1 := [(o0, .inr (0, [.long (pk a0), .long (pk a1), .long (pkn q w), .int (iI ((w : Nat) : Int))])), (u0, .inl (cJ, 1, .inr (.inl (fun _ => (iI ((fm (rw_ r a0 a1) (12 * 0 + fm (rw_ r a0 a1) (12 * 1 + rw_ r a0 a1 0) i) j : Nat) : Int)).toInt64))))]) (w2 := [(m0, .inr (1, [.int th, .ref t0, .ref k0, .ref p0, .int (iI ((w : Nat) : Int))])), (t0, .inl (cI, 24, .inl (fun j => iI ((tb a0 a1 j : Nat) : Int)))), (k0, .inl (cI, 12, .inl (fun j => iI ((K j : Nat) : Int)))), (p0, .inl (cI, 12, .inl (fun j => iI ((q j : Nat) : Int))))]) hD
  refine wr_call (va_runV (As := [.int (iI ((r : Nat) : Int)), .int (iI ((i : Nat) : Int)), .int (iI ((j : Nat) : Int))]) (rest := []) ⟨hx, hb, hml, hown, hts⟩ (mX1_matrix_ok l dC dI cI m0 t0 k0 p0 a0 a1 K q th w hp0.1 hp1.1 hw hq r i j (by omega) (by omega) (by omega)) (cwV 3 hts gL_law_X1_matrix rfl rfl rfl hvX1_matrix ⟨(Nat.le_of_ble_eq_true rfl), (Nat.le_of_ble_eq_true rfl)⟩) (bD_pre (ci := 1) (q0 := 0) hK2 hP2 hD2 rfl rfl rfl) rfl rfl hl.1 rfl (lv_room (Nat.le_of_ble_eq_true rfl)) dL_law_795 hf9) hS (fun q9 h => inW_A hD2 h) (fun H locs hPn hz hk hS => ?_)
  have hP : va_P (dC, dI) vwCl ([(o0, .inr (0, [.long (pk a0), .long (pk a1), .long (pkn q w), .int (iI ((w : Nat) : Int))])), (u0, .inl (cJ, 1, .inr (.inl (fun _ => (iI ((fm (rw_ r a0 a1) (12 * 0 + fm (rw_ r a0 a1) (12 * 1 + rw_ r a0 a1 0) i) j : Nat) : Int)).toInt64))))] ++ [(m0, .inr (1, [.int (iI 0), .ref t0, .ref k0, .ref p0, .int (iI ((w : Nat) : Int))])), (t0, .inl (cI, 24, .inl (fun j => iI ((tb a0 a1 j : Nat) : Int)))), (k0, .inl (cI, 12, .inl (fun j => iI ((K j : Nat) : Int)))), (p0, .inl (cI, 12, .inl (fun j => iI ((q j : Nat) : Int))))]) H := wj_r (w1 := [(o0, .inr (0, [.long (pk a0), .long (pk a1), .long (pkn q w), .int (iI ((w : Nat) : Int))])), (u0, .inl (cJ, 1, .inr (.inl (fun _ => (iI ((fm (rw_ r a0 a1) (12 * 0 + fm (rw_ r a0 a1) (12 * 1 + rw_ r a0 a1 0) i) j : Nat) : Int)).toInt64))))]) (w2 := [(m0, .inr (1, [.int th, .ref t0, .ref k0, .ref p0, .int (iI ((w : Nat) : Int))])), (t0, .inl (cI, 24, .inl (fun j => iI ((tb a0 a1 j : Nat) : Int)))), (k0, .inl (cI, 12, .inl (fun j => iI ((K j : Nat) : Int)))), (p0, .inl (cI, 12, .inl (fun j => iI ((q j : Nat) : Int))))]) (w2' := [(m0, .inr (1, [.int (iI 0), .ref t0, .ref k0, .ref p0, .int (iI ((w : Nat) : Int))])), (t0, .inl (cI, 24, .inl (fun j => iI ((tb a0 a1 j : Nat) : Int)))), (k0, .inl (cI, 12, .inl (fun j => iI ((K j : Nat) : Int)))), (p0, .inl (cI, 12, .inl (fun j => iI ((q j : Nat) : Int))))]) hP hD hPn hk
  have hD : va_D (LA s) ([(o0, .inr (0, [.long (pk a0), .long (pk a1), .long (pkn q w), .int (iI ((w : Nat) : Int))])), (u0, .inl (cJ, 1, .inr (.inl (fun _ => (iI ((fm (rw_ r a0 a1) (12 * 0 + fm (rw_ r a0 a1) (12 * 1 + rw_ r a0 a1 0) i) j : Nat) : Int)).toInt64))))] ++ [(m0, .inr (1, [.int (iI 0), .ref t0, .ref k0, .ref p0, .int (iI ((w : Nat) : Int))])), (t0, .inl (cI, 24, .inl (fun j => iI ((tb a0 a1 j : Nat) : Int)))), (k0, .inl (cI, 12, .inl (fun j => iI ((K j : Nat) : Int)))), (p0, .inl (cI, 12, .inl (fun j => iI ((q j : Nat) : Int))))]) := va_D_same (w := ([(o0, .inr (0, [.long (pk a0), .long (pk a1), .long (pkn q w), .int (iI ((w : Nat) : Int))])), (u0, .inl (cJ, 1, .inr (.inl (fun _ => (iI ((fm (rw_ r a0 a1) (12 * 0 + fm (rw_ r a0 a1) (12 * 1 + rw_ r a0 a1 0) i) j : Nat) : Int)).toInt64))))] ++ [(m0, .inr (1, [.int th, .ref t0, .ref k0, .ref p0, .int (iI ((w : Nat) : Int))])), (t0, .inl (cI, 24, .inl (fun j => iI ((tb a0 a1 j : Nat) : Int)))), (k0, .inl (cI, 12, .inl (fun j => iI ((K j : Nat) : Int)))), (p0, .inl (cI, 12, .inl (fun j => iI ((q j : Nat) : Int))))])) (Eq.trans (b := [o0, u0, m0, t0, k0, p0]) rfl rfl) hD
  refine va_forget hS.2.2 ?_
  have hS := va_S_nil hS
  refine lv_istore (lv' := [(6, .int (iI ((fm (rw_ r a0 a1) (12 * 0 + fm (rw_ r a0 a1) (12 * 1 + rw_ r a0 a1 0) i) j : Nat) : Int))), (5, .int (iI 0)), (0, .ref b), (1, .ref o0), (2, .ref m0), (3, .ref u0), (4, .int (iI ((5 * n : Nat) : Int)))]) hx hb dL_law_798 hl (by decide) rfl (fun ls hl => ?_)
  refine lv_aload_n hx hb dL_law_800 rfl (lv_at hl 4 rfl) ?_
  have hP2 : va_P (dC, dI) vwCl [(m0, .inr (1, [.int (iI 0), .ref t0, .ref k0, .ref p0, .int (iI ((w : Nat) : Int))])), (t0, .inl (cI, 24, .inl (fun j => iI ((tb a0 a1 j : Nat) : Int)))), (k0, .inl (cI, 12, .inl (fun j => iI ((K j : Nat) : Int)))), (p0, .inl (cI, 12, .inl (fun j => iI ((q j : Nat) : Int))))] H := va_P_r (w1 := [(o0, .inr (0, [.long (pk a0), .long (pk a1), .long (pkn q w), .int (iI ((w : Nat) : Int))])), (u0, .inl (cJ, 1, .inr (.inl (fun _ => (iI ((fm (rw_ r a0 a1) (12 * 0 + fm (rw_ r a0 a1) (12 * 1 + rw_ r a0 a1 0) i) j : Nat) : Int)).toInt64))))]) (w2 := [(m0, .inr (1, [.int (iI 0), .ref t0, .ref k0, .ref p0, .int (iI ((w : Nat) : Int))])), (t0, .inl (cI, 24, .inl (fun j => iI ((tb a0 a1 j : Nat) : Int)))), (k0, .inl (cI, 12, .inl (fun j => iI ((K j : Nat) : Int)))), (p0, .inl (cI, 12, .inl (fun j => iI ((q j : Nat) : Int))))]) hP
  have hK2 := hK.sub (tys' := [(cI, .int)]) [1] rfl
  have hf9 : cells + 1 + 0 ≤ room_1.cells ∧ slots + 6 + 0 ≤ room_1.slots := ⟨by show cells + 1 + 0 ≤ 1036; omega, by show slots + 6 + 0 ≤ 8286; omega⟩
  refine rd_call (va_runV (As := []) (rest := []) ⟨hx, hb, hml, hown, hts⟩ (mX1_thrown l dC dI cI m0 t0 k0 p0 a0 a1 K q (iI 0) w hp0.1 hp1.1 hw hq) (cwV 0 hts gL_law_X1_thrown rfl rfl rfl hvX1_thrown ⟨(Nat.le_of_ble_eq_true rfl), (Nat.le_of_ble_eq_true rfl)⟩) (bW_pre (ci := 1) (q0 := 0) hK2 hP2 rfl rfl rfl) rfl rfl hl.1 rfl (lv_room (Nat.le_of_ble_eq_true rfl)) dL_law_801 hf9) ?_
  refine lv_iload hx hb dL_law_804 (lv_at hl 1 rfl) ?_
  refine ib_icmp_eq (tgt := 811) hx hb dL_law_806 (by decide) ⟨by omega, by omega⟩ ⟨by omega, by omega⟩ (fun c_806 => ?_) (fun c_806 => absurd c_806 (by decide))
  refine lv_iload hx hb dL_law_811 (lv_at hl 1 rfl) ?_
  refine ib_if_ne (tgt := 828) hx hb dL_law_813 (by decide) ⟨by omega, by omega⟩ (fun c_813 => absurd c_813 (by decide)) (fun c_813 => ?_)
  refine lv_aload_n hx hb dL_law_816 rfl (lv_at hl 5 rfl) ?_
  refine ib_const hx hb dL_law_817 ?_
  refine va_lald hx hb hK hP 1 0 rfl rfl vp0 dL_law_818 ?_
  refine st_l (y := (iI ((fm (rw_ r a0 a1) (12 * 0 + fm (rw_ r a0 a1) (12 * 1 + rw_ r a0 a1 0) i) j : Nat) : Int)).toInt64) rfl ?_
  refine lv_iload hx hb dL_law_819 (lv_at hl 0 rfl) ?_
  refine lv_i2l hx hb dL_law_821 rfl ?_
  refine W.lcmp hx hb dL_law_822 ?_
  refine bl_eq (tgt := 828) hx hb dL_law_823 (by decide) (fun _ => ?_) (fun h => absurd rfl h)
  refine lv_goto (tgt := 1833) hx hb dL_law_828 (by decide) ?_
  exact kk a0 a1 q K w (iI 0) (fun _ => (iI ((fm (rw_ r a0 a1) (12 * 0 + fm (rw_ r a0 a1) (12 * 1 + rw_ r a0 a1 0) i) j : Nat) : Int)).toInt64) H ls ⟨hp0, hp1, hw, hq, hqd, hP, hD, hS⟩ (lv_sub hl [2, 3, 4, 5, 6] rfl)
